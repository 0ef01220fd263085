theorem chA : ∀ j, j < 9 → (((65 : Int32) + nI j).toUInt32 % 65536).toInt32 = nI (65 + j) ∧ (((97 : Int32) + nI j).toUInt32 % 65536).toInt32 = nI (97 + j) := by decide +kernel

set_option maxHeartbeats 4000000 in
set_option maxRecDepth 100000 in
theorem m_X9_write {X : Cx} {l : Launch} (h0 : Init X) {cm : Nat → Nat} {o : Nat} {σ : Sb} (hO : Ok σ.1) {r wc wd ws : Nat} (hr : r < σ.1.2 1) (hwc : σ.1.1 5 r = nI wc) (hwd : σ.1.1 6 r = nI wd) (hws : σ.1.1 7 r = nI ws) (hc31 : wc < 2 ^ 31) (hd31 : wd < 2 ^ 31) (hs31 : ws < 2 ^ 31)  : MM X l yX9_write cX9_write 2 (some .int) 7 170 10 1300 [.ref o, .int (nI r)] (SBH X cm o σ) (fun v H => ∃ L : Nat, v = some (.int (nI L)) ∧ 3 ≤ L ∧ L ≤ 60 ∧ SBH X cm o σ H) (gA X) := by
  refine Met.mk (Bh := (SBH X cm o σ)) (by decide) (Nat.le_of_ble_eq_true rfl) ?_
  intro p e s m below meth c ls hF hB hl
  obtain ⟨ow, f, g, hsb⟩ := hB
  obtain ⟨hz, hob, hsk, hpa, hre, ⟨cw, ew, nu, hcw, hwo⟩, hin, ⟨ln, co, hln, hlb⟩, hi60⟩ := id hsb
  have hs0 := hsk 0 (by decide)
  have hl : lv_has ls 2 [(0, .ref o), (1, .int (nI r))] := hl
  obtain ⟨hx, hb, hml, hr, hlk, hown, hG⟩ := id hF
  have hK := hG.K h0
  have hS : va_S (gA X) s.heap s.heap [] := va_S.rf
  have hAo : ∀ q, q < X.z → ¬ gA X q := fun q h9 (h8 : X.z ≤ q) => absurd h8 (by omega)
  have hO1 := hO.1
  have hO2 := hO.2.1
  have hO3 := hO.2.2.1
  have hdr := sb_dg_in r
  have hdc := sb_dg_in wc
  have hcN := cN_le (fun z => decide (σ.1.1 14 z = nI r)) (σ.1.2 2)
  refine lv_aload_n hx hb dX9_write_0 rfl (lv_at hl 0 rfl) ?_
  refine g_get (ci := 8) (v := .ref (f 0 0)) h0 hF inX9 hob.1 0 rfl rfl 0 (by decide) wf_X9_12 rfl rfl dX9_write_1 ?_
  refine g_get (ci := 4) (v := .ref (f 0 2)) h0 hF inX5 hs0.1 0 rfl rfl 1 (by decide) wf_X9_165 rfl rfl dX9_write_4 ?_
  refine lv_iload_n hx hb dX9_write_7 rfl (lv_at hl 1 rfl) ?_
  refine core_p (v := .int (bI (hasB (σ.1.2 1) (nI r)))) (grV (n := 1) (As := [.int (nI r)]) (rest := []) h0 hF (m_X4_has h0 (f := f 0) (k := σ.1) hO  (nI r)) wm_X9_169 wo_X4_has ws_X4__X4_has wz_X4 wc_X4_has ⟨by decide, by decide, by decide +kernel⟩ rfl ⟨Nat.le_of_ble_eq_true rfl, Nat.le_of_ble_eq_true rfl⟩ (ci := 3) ⟨_, hs0.1 2 _ rfl⟩ rfl hs0.1 hS hAo ⟨Nat.le_of_ble_eq_true rfl, Nat.le_of_ble_eq_true rfl⟩ hl.1 rfl (Nat.le_of_ble_eq_true rfl) dX9_write_8) ?_
  refine lv_if_ne (tgt := 16) hx hb dX9_write_11 (by decide) (fun c_11 => ?_) (fun c_11 => absurd c_11 (bI_n0.mpr (hasB_nI (by omega) (by omega))))
  have n_11 := bI_n0.mp c_11
  refine lv_aload_n hx hb dX9_write_16 rfl (lv_at hl 0 rfl) ?_
  refine g_get (ci := 8) (v := .ref (g 4)) h0 hF inX9 hob.1 0 rfl rfl 6 (by decide) wf_X9_47 rfl rfl dX9_write_17 ?_
  refine lv_iconst (v := 0) hx hb dX9_write_20 (by decide) ?_
  obtain ⟨lv, lcap, lml, lbs, hlt, -⟩ := id hlb
  refine core_m (A1 := fun q => ow q = 25 ∨ s.heap.size ≤ q) (grV (Bh := (fun H1 => bfH X ow 25 (g 4) (ln) co H1 ∧ s.heap.size ≤ H1.size)) (n := 1) (As := [.int 0]) (rest := []) h0 hF (m_J4_setLength h0 (ow := ow) (t := 25) (a := g 4) (n := ln) (N := s.heap.size) (co := co) (fun q h => hz q (by omega)) (Nat.le_trans hG.2.1 hS.1) (by omega)) wm_X9_127 wo_J4_setLength_d00df ws_J4__J4_setLength_d00df wz_J4 wc_J4_setLength_d00df ⟨by decide, by decide, by decide +kernel⟩ rfl ⟨Nat.le_of_ble_eq_true rfl, Nat.le_of_ble_eq_true rfl⟩ (ci := 0) ⟨_, hlt.1 0 _ rfl⟩ rfl ⟨hlb, Nat.le_refl _⟩ hS hAo ⟨Nat.le_of_ble_eq_true rfl, Nat.le_of_ble_eq_true rfl⟩ hl.1 rfl (Nat.le_of_ble_eq_true rfl) dX9_write_21) hS (fun q (h8 : ow q = 25 ∨ s.heap.size ≤ q) => (show X.z ≤ q from h8.elim (fun h => hz q (by omega)) (fun h => Nat.le_trans (Nat.le_trans hG.2.1 hS.1) h))) (fun v' H locs hq' hz1 hk1 hS' => ?_)
  obtain ⟨rfl, ow1, hag, hbf⟩ := hq'
  obtain ⟨ow, hsb, co, hlb⟩ : ∃ ow2, SBP X cm o σ ow2 f g H ∧ ∃ co2, bfH X ow2 25 (g 4) (0) co2 H := ⟨ow1, hsb.line hk1 (Nat.le_refl _) (Nat.le_trans hG.2.1 hS.1) hag (by omega) hbf, _, hbf⟩
  have hS := hS'
  obtain ⟨hz, hob, hsk, hpa, hre, ⟨cw, ew, nu, hcw, hwo⟩, hin, -, hi60⟩ := id hsb
  have hs0 := hsk 0 (by decide)
  refine lv_aload_n hx hb dX9_write_24 rfl (lv_at hl 0 rfl) ?_
  refine g_get (ci := 8) (v := .ref (g 4)) h0 hF inX9 hob.1 0 rfl rfl 6 (by decide) wf_X9_47 rfl rfl dX9_write_25 ?_
  refine lv_iload_n hx hb dX9_write_28 rfl (lv_at hl 1 rfl) ?_
  obtain ⟨lv, lcap, lml, lbs, hlt, -⟩ := id hlb
  refine core_m (A1 := fun q => ow q = 25 ∨ H.size ≤ q) (grV (Bh := (fun H1 => bfH X ow 25 (g 4) (0) co H1 ∧ H.size ≤ H1.size)) (n := 1) (As := [.int (nI r)]) (rest := []) h0 hF (m_J4_append_i h0 (ow := ow) (t := 25) (a := g 4) (n := 0) (N := H.size) (co := co) (fun q h => hz q (by omega)) (Nat.le_trans hG.2.1 hS.1) (w := r) (by omega) (by omega)) wm_X9_276 wo_J4_append_bf812 ws_J4__J4_append_bf812 wz_J4 wc_J4_append_bf812 ⟨by decide, by decide, by decide +kernel⟩ rfl ⟨Nat.le_of_ble_eq_true rfl, Nat.le_of_ble_eq_true rfl⟩ (ci := 0) ⟨_, hlt.1 0 _ rfl⟩ rfl ⟨hlb, Nat.le_refl _⟩ hS hAo ⟨Nat.le_of_ble_eq_true rfl, Nat.le_of_ble_eq_true rfl⟩ hl.1 rfl (Nat.le_of_ble_eq_true rfl) dX9_write_29) hS (fun q (h8 : ow q = 25 ∨ H.size ≤ q) => (show X.z ≤ q from h8.elim (fun h => hz q (by omega)) (fun h => Nat.le_trans (Nat.le_trans hG.2.1 hS.1) h))) (fun v' H locs hq' hz1 hk1 hS' => ?_)
  obtain ⟨rfl, ow1, co1, hag, hbf⟩ := hq'
  obtain ⟨ow, hsb, co, hlb⟩ : ∃ ow2, SBP X cm o σ ow2 f g H ∧ ∃ co2, bfH X ow2 25 (g 4) (0 + sb_dg r) co2 H := ⟨ow1, hsb.line hk1 (Nat.le_refl _) (Nat.le_trans hG.2.1 hS.1) hag (by omega) hbf, _, hbf⟩
  have hS := hS'
  obtain ⟨hz, hob, hsk, hpa, hre, ⟨cw, ew, nu, hcw, hwo⟩, hin, -, hi60⟩ := id hsb
  have hs0 := hsk 0 (by decide)
  refine lv_pop hx hb dX9_write_32 rfl ?_
  refine lv_aload_n hx hb dX9_write_33 rfl (lv_at hl 0 rfl) ?_
  refine g_get (ci := 8) (v := .ref (g 4)) h0 hF inX9 hob.1 0 rfl rfl 6 (by decide) wf_X9_47 rfl rfl dX9_write_34 ?_
  refine lv_bipush (v := 36) hx hb dX9_write_37 (by decide) ?_
  obtain ⟨lv, lcap, lml, lbs, hlt, -⟩ := id hlb
  refine core_m (A1 := fun q => ow q = 25 ∨ H.size ≤ q) (grV (Bh := (fun H1 => bfH X ow 25 (g 4) (0 + sb_dg r) co H1 ∧ H.size ≤ H1.size)) (n := 1) (As := [.int 36]) (rest := []) h0 hF (m_J4_append_c h0 (ow := ow) (t := 25) (a := g 4) (n := 0 + sb_dg r) (N := H.size) (co := co) (fun q h => hz q (by omega)) (Nat.le_trans hG.2.1 hS.1) (cv := 36) (by omega) (by decide)) wm_X9_77 wo_J4_append_cf468 ws_J4__J4_append_cf468 wz_J4 wc_J4_append_cf468 ⟨by decide, by decide, by decide +kernel⟩ rfl ⟨Nat.le_of_ble_eq_true rfl, Nat.le_of_ble_eq_true rfl⟩ (ci := 0) ⟨_, hlt.1 0 _ rfl⟩ rfl ⟨hlb, Nat.le_refl _⟩ hS hAo ⟨Nat.le_of_ble_eq_true rfl, Nat.le_of_ble_eq_true rfl⟩ hl.1 rfl (Nat.le_of_ble_eq_true rfl) dX9_write_39) hS (fun q (h8 : ow q = 25 ∨ H.size ≤ q) => (show X.z ≤ q from h8.elim (fun h => hz q (by omega)) (fun h => Nat.le_trans (Nat.le_trans hG.2.1 hS.1) h))) (fun v' H locs hq' hz1 hk1 hS' => ?_)
  obtain ⟨rfl, ow1, hag, hbf⟩ := hq'
  obtain ⟨ow, hsb, co, hlb⟩ : ∃ ow2, SBP X cm o σ ow2 f g H ∧ ∃ co2, bfH X ow2 25 (g 4) (0 + sb_dg r + 1) co2 H := ⟨ow1, hsb.line hk1 (Nat.le_refl _) (Nat.le_trans hG.2.1 hS.1) hag (by omega) hbf, _, hbf⟩
  have hS := hS'
  obtain ⟨hz, hob, hsk, hpa, hre, ⟨cw, ew, nu, hcw, hwo⟩, hin, -, hi60⟩ := id hsb
  have hs0 := hsk 0 (by decide)
  refine lv_pop hx hb dX9_write_42 rfl ?_
  refine lv_aload_n hx hb dX9_write_43 rfl (lv_at hl 0 rfl) ?_
  refine g_get (ci := 8) (v := .ref (g 4)) h0 hF inX9 hob.1 0 rfl rfl 6 (by decide) wf_X9_47 rfl rfl dX9_write_44 ?_
  refine lv_aload_n hx hb dX9_write_47 rfl (lv_at hl 0 rfl) ?_
  refine g_get (ci := 8) (v := .ref (f 0 0)) h0 hF inX9 hob.1 0 rfl rfl 0 (by decide) wf_X9_12 rfl rfl dX9_write_48 ?_
  refine g_get (ci := 4) (v := .ref (f 0 2)) h0 hF inX5 hs0.1 0 rfl rfl 1 (by decide) wf_X9_165 rfl rfl dX9_write_51 ?_
  refine g_get (ci := 3) (v := .ref (f 0 9)) h0 hF inX4 hs0.1 2 rfl rfl 1 (by decide) wf_X9_172 rfl rfl dX9_write_54 ?_
  refine lv_iload_n hx hb dX9_write_57 rfl (lv_at hl 1 rfl) ?_
  refine g_iald hx hb hK hs0.1 9 0 rfl rfl r (rfl) (by omega) (by decide) dX9_write_58 ?_
  refine lv_topE (y := nI wc) (hwc) ?_
  obtain ⟨lv, lcap, lml, lbs, hlt, -⟩ := id hlb
  refine core_m (A1 := fun q => ow q = 25 ∨ H.size ≤ q) (grV (Bh := (fun H1 => bfH X ow 25 (g 4) (0 + sb_dg r + 1) co H1 ∧ H.size ≤ H1.size)) (n := 1) (As := [.int (nI wc)]) (rest := []) h0 hF (m_J4_append_i h0 (ow := ow) (t := 25) (a := g 4) (n := 0 + sb_dg r + 1) (N := H.size) (co := co) (fun q h => hz q (by omega)) (Nat.le_trans hG.2.1 hS.1) (w := wc) (by omega) (by omega)) wm_X9_276 wo_J4_append_bf812 ws_J4__J4_append_bf812 wz_J4 wc_J4_append_bf812 ⟨by decide, by decide, by decide +kernel⟩ rfl ⟨Nat.le_of_ble_eq_true rfl, Nat.le_of_ble_eq_true rfl⟩ (ci := 0) ⟨_, hlt.1 0 _ rfl⟩ rfl ⟨hlb, Nat.le_refl _⟩ hS hAo ⟨Nat.le_of_ble_eq_true rfl, Nat.le_of_ble_eq_true rfl⟩ hl.1 rfl (Nat.le_of_ble_eq_true rfl) dX9_write_59) hS (fun q (h8 : ow q = 25 ∨ H.size ≤ q) => (show X.z ≤ q from h8.elim (fun h => hz q (by omega)) (fun h => Nat.le_trans (Nat.le_trans hG.2.1 hS.1) h))) (fun v' H locs hq' hz1 hk1 hS' => ?_)
  obtain ⟨rfl, ow1, co1, hag, hbf⟩ := hq'
  obtain ⟨ow, hsb, co, hlb⟩ : ∃ ow2, SBP X cm o σ ow2 f g H ∧ ∃ co2, bfH X ow2 25 (g 4) (0 + sb_dg r + 1 + sb_dg wc) co2 H := ⟨ow1, hsb.line hk1 (Nat.le_refl _) (Nat.le_trans hG.2.1 hS.1) hag (by omega) hbf, _, hbf⟩
  have hS := hS'
  obtain ⟨hz, hob, hsk, hpa, hre, ⟨cw, ew, nu, hcw, hwo⟩, hin, -, hi60⟩ := id hsb
  have hs0 := hsk 0 (by decide)
  refine lv_pop hx hb dX9_write_62 rfl ?_
  refine lv_aload_n hx hb dX9_write_63 rfl (lv_at hl 0 rfl) ?_
  refine lv_bipush (v := 45) hx hb dX9_write_64 (by decide) ?_
  refine lv_aload_n hx hb dX9_write_66 rfl (lv_at hl 0 rfl) ?_
  refine g_get (ci := 8) (v := .ref (f 0 0)) h0 hF inX9 hob.1 0 rfl rfl 0 (by decide) wf_X9_12 rfl rfl dX9_write_67 ?_
  refine g_get (ci := 4) (v := .ref (f 0 2)) h0 hF inX5 hs0.1 0 rfl rfl 1 (by decide) wf_X9_165 rfl rfl dX9_write_70 ?_
  refine g_get (ci := 3) (v := .ref (f 0 10)) h0 hF inX4 hs0.1 2 rfl rfl 2 (by decide) wf_X9_232 rfl rfl dX9_write_73 ?_
  refine lv_iload_n hx hb dX9_write_76 rfl (lv_at hl 1 rfl) ?_
  refine g_iald hx hb hK hs0.1 10 0 rfl rfl r (rfl) (by omega) (by decide) dX9_write_77 ?_
  refine lv_topE (y := nI wd) (hwd) ?_
  refine core_m (A1 := fun q => X.z ≤ q) (grV (Bh := (SBL X cm o σ (0 + sb_dg r + 1 + sb_dg wc))) (n := 2) (As := [.int 45, .int (nI wd)]) (rest := []) h0 hF (m_X9_writeIfAny h0 (cm := cm) (o := o) (σ := σ) (n := 0 + sb_dg r + 1 + sb_dg wc) (sg := 45) (w := wd) (by omega) (by decide) (by omega)) wm_X9_279 wo_X9_writeIfAny ws_X9__X9_writeIfAny wz_X9 wc_X9_writeIfAny ⟨by decide, by decide, by decide +kernel⟩ rfl ⟨Nat.le_of_ble_eq_true rfl, Nat.le_of_ble_eq_true rfl⟩ (ci := 8) ⟨_, hob.1 0 _ rfl⟩ rfl ⟨by omega, ow, f, g, co, hsb, hlb⟩ hS hAo ⟨Nat.le_of_ble_eq_true rfl, Nat.le_of_ble_eq_true rfl⟩ hl.1 rfl (Nat.le_of_ble_eq_true rfl) dX9_write_78) hS (fun q (h8 : X.z ≤ q) => h8) (fun v' H locs hq' hz1 hk1 hS => ?_)
  obtain ⟨rfl, n1, hn1a, hn1b, hn60, ow, f, g, co, hsb, hlb⟩ := hq'
  obtain ⟨hz, hob, hsk, hpa, hre, ⟨cw, ew, nu, hcw, hwo⟩, hin, -, hi60⟩ := id hsb
  have hs0 := hsk 0 (by decide)
  refine lv_aload_n hx hb dX9_write_81 rfl (lv_at hl 0 rfl) ?_
  refine lv_bipush (v := 115) hx hb dX9_write_82 (by decide) ?_
  refine lv_aload_n hx hb dX9_write_84 rfl (lv_at hl 0 rfl) ?_
  refine g_get (ci := 8) (v := .ref (f 0 0)) h0 hF inX9 hob.1 0 rfl rfl 0 (by decide) wf_X9_12 rfl rfl dX9_write_85 ?_
  refine g_get (ci := 4) (v := .ref (f 0 2)) h0 hF inX5 hs0.1 0 rfl rfl 1 (by decide) wf_X9_165 rfl rfl dX9_write_88 ?_
  refine g_get (ci := 3) (v := .ref (f 0 11)) h0 hF inX4 hs0.1 2 rfl rfl 3 (by decide) wf_X9_175 rfl rfl dX9_write_91 ?_
  refine lv_iload_n hx hb dX9_write_94 rfl (lv_at hl 1 rfl) ?_
  refine g_iald hx hb hK hs0.1 11 0 rfl rfl r (rfl) (by omega) (by decide) dX9_write_95 ?_
  refine lv_topE (y := nI ws) (hws) ?_
  refine core_m (A1 := fun q => X.z ≤ q) (grV (Bh := (SBL X cm o σ (n1))) (n := 2) (As := [.int 115, .int (nI ws)]) (rest := []) h0 hF (m_X9_writeIfAny h0 (cm := cm) (o := o) (σ := σ) (n := n1) (sg := 115) (w := ws) (by omega) (by decide) (by omega)) wm_X9_279 wo_X9_writeIfAny ws_X9__X9_writeIfAny wz_X9 wc_X9_writeIfAny ⟨by decide, by decide, by decide +kernel⟩ rfl ⟨Nat.le_of_ble_eq_true rfl, Nat.le_of_ble_eq_true rfl⟩ (ci := 8) ⟨_, hob.1 0 _ rfl⟩ rfl ⟨by omega, ow, f, g, co, hsb, hlb⟩ hS hAo ⟨Nat.le_of_ble_eq_true rfl, Nat.le_of_ble_eq_true rfl⟩ hl.1 rfl (Nat.le_of_ble_eq_true rfl) dX9_write_96) hS (fun q (h8 : X.z ≤ q) => h8) (fun v' H locs hq' hz1 hk1 hS => ?_)
  obtain ⟨rfl, n2, hn2a, hn2b, hn60, ow, f, g, co, hsb, hlb⟩ := hq'
  obtain ⟨hz, hob, hsk, hpa, hre, ⟨cw, ew, nu, hcw, hwo⟩, hin, -, hi60⟩ := id hsb
  have hs0 := hsk 0 (by decide)
  refine lv_aload_n hx hb dX9_write_99 rfl (lv_at hl 0 rfl) ?_
  refine lv_bipush (v := 119) hx hb dX9_write_100 (by decide) ?_
  refine lv_aload_n hx hb dX9_write_102 rfl (lv_at hl 0 rfl) ?_
  refine g_get (ci := 8) (v := .ref (f 0 0)) h0 hF inX9 hob.1 0 rfl rfl 0 (by decide) wf_X9_12 rfl rfl dX9_write_103 ?_
  refine g_get (ci := 4) (v := .ref (f 0 3)) h0 hF inX5 hs0.1 0 rfl rfl 2 (by decide) wf_X9_155 rfl rfl dX9_write_106 ?_
  refine lv_iload_n hx hb dX9_write_109 rfl (lv_at hl 1 rfl) ?_
  refine core_p (v := .int (nI (cN (fun z => decide (σ.1.1 14 z = (nI r))) (σ.1.2 2)))) (grV (n := 1) (As := [.int (nI r)]) (rest := [.int 119, .ref o]) h0 hF (m_X7_countOf h0 (f := f 0) (k := σ.1) hO  (nI r)) wm_X9_178 wo_X7_countOf ws_X7__X7_countOf wz_X7 wc_X7_countOf ⟨by decide, by decide, by decide +kernel⟩ rfl ⟨Nat.le_of_ble_eq_true rfl, Nat.le_of_ble_eq_true rfl⟩ (ci := 6) ⟨_, hs0.1 3 _ rfl⟩ rfl hs0.1 hS hAo ⟨Nat.le_of_ble_eq_true rfl, Nat.le_of_ble_eq_true rfl⟩ hl.1 rfl (Nat.le_of_ble_eq_true rfl) dX9_write_110) ?_
  refine core_m (A1 := fun q => X.z ≤ q) (grV (Bh := (SBL X cm o σ (n2))) (n := 2) (As := [.int 119, .int (nI (cN (fun z => decide (σ.1.1 14 z = (nI r))) (σ.1.2 2)))]) (rest := []) h0 hF (m_X9_writeIfAny h0 (cm := cm) (o := o) (σ := σ) (n := n2) (sg := 119) (w := (cN (fun z => decide (σ.1.1 14 z = (nI r))) (σ.1.2 2))) (by omega) (by decide) (by omega)) wm_X9_279 wo_X9_writeIfAny ws_X9__X9_writeIfAny wz_X9 wc_X9_writeIfAny ⟨by decide, by decide, by decide +kernel⟩ rfl ⟨Nat.le_of_ble_eq_true rfl, Nat.le_of_ble_eq_true rfl⟩ (ci := 8) ⟨_, hob.1 0 _ rfl⟩ rfl ⟨by omega, ow, f, g, co, hsb, hlb⟩ hS hAo ⟨Nat.le_of_ble_eq_true rfl, Nat.le_of_ble_eq_true rfl⟩ hl.1 rfl (Nat.le_of_ble_eq_true rfl) dX9_write_113) hS (fun q (h8 : X.z ≤ q) => h8) (fun v' H locs hq' hz1 hk1 hS => ?_)
  obtain ⟨rfl, n3, hn3a, hn3b, hn60, ow, f, g, co, hsb, hlb⟩ := hq'
  obtain ⟨hz, hob, hsk, hpa, hre, ⟨cw, ew, nu, hcw, hwo⟩, hin, -, hi60⟩ := id hsb
  have hs0 := hsk 0 (by decide)
  refine lv_aload_n hx hb dX9_write_116 rfl (lv_at hl 0 rfl) ?_
  refine g_get (ci := 8) (v := .ref (g 4)) h0 hF inX9 hob.1 0 rfl rfl 6 (by decide) wf_X9_47 rfl rfl dX9_write_117 ?_
  obtain ⟨lv, lcap, lml, lbs, hlt, -⟩ := id hlb
  refine core_p (v := .int (nI n3)) (grV (n := 0) (As := []) (rest := []) h0 hF (m_J4_length_8abf5 h0 (ow := ow) (t := 25) (a := g 4) (v := lv) (ml := lml) (n := n3) (cap := lcap) (bs := lbs)) wm_X9_73 wo_J4_length_8abf5 ws_J4__J4_length_8abf5 wz_J4 wc_J4_length_8abf5 ⟨by decide, by decide, by decide +kernel⟩ rfl ⟨Nat.le_of_ble_eq_true rfl, Nat.le_of_ble_eq_true rfl⟩ (ci := 0) ⟨_, hlt.1 0 _ rfl⟩ rfl hlt hS hAo ⟨Nat.le_of_ble_eq_true rfl, Nat.le_of_ble_eq_true rfl⟩ hl.1 rfl (Nat.le_of_ble_eq_true rfl) dX9_write_120) ?_
  refine W.widen (k := 10) (n := 1300) (by omega) (by omega) ?_
  exact mm_iret hF hS dX9_write_123 (⟨_, rfl, by omega, by omega, ow, f, g, hsb⟩)

set_option maxHeartbeats 4000000 in
set_option maxRecDepth 100000 in
theorem m_X9_writeSky {X : Cx} {l : Launch} (h0 : Init X) {cm : Nat → Nat} {o : Nat} {σ : Sb} (hO : Ok σ.1) (hOc : Okc σ.1) {d : Nat} (hd : d < 4)  : MM X l yX9_writeSky cX9_writeSky 3 (some .int) 7 170 11 1430 [.ref o, .int (nI d)] (SBH X cm o σ) (fun v H => ∃ L : Nat, v = some (.int (nI L)) ∧ L ≤ 60 ∧ SBH X cm o σ H) (gA X) := by
  refine Met.mk (Bh := (SBH X cm o σ)) (by decide) (Nat.le_of_ble_eq_true rfl) ?_
  intro p e s m below meth c ls hF hB hl
  obtain ⟨ow, f, g, hsb⟩ := hB
  obtain ⟨hz, hob, hsk, hpa, hre, ⟨cw, ew, nu, hcw, hwo⟩, hin, ⟨ln, co, hln, hlb⟩, hi60⟩ := id hsb
  have hs0 := hsk 0 (by decide)
  have hl : lv_has ls 3 [(0, .ref o), (1, .int (nI d))] := hl
  obtain ⟨hx, hb, hml, hr, hlk, hown, hG⟩ := id hF
  have hK := hG.K h0
  have hS : va_S (gA X) s.heap s.heap [] := va_S.rf
  have hAo : ∀ q, q < X.z → ¬ gA X q := fun q h9 (h8 : X.z ≤ q) => absurd h8 (by omega)
  have hO1 := hO.1
  have hO2 := hO.2.1
  have hO3 := hO.2.2.1
  have hcd := (hOc d hd).2
  refine lv_iload_n hx hb dX9_writeSky_0 rfl (lv_at hl 1 rfl) ?_
  refine core_p (v := .int (bI (winB (nI d) 0 3))) (grS (n := 1) (As := [.int (nI d)]) (rest := []) h0 hF (m_X9_isSector h0 (nI d)) wm_X9_226 wt_X9_isSector wz_X9 wc_X9_isSector ⟨by decide, by decide, by decide +kernel⟩ rfl ⟨Nat.le_of_ble_eq_true rfl, Nat.le_of_ble_eq_true rfl⟩ trivial hS hAo ⟨Nat.le_of_ble_eq_true rfl, Nat.le_of_ble_eq_true rfl⟩ hl.1 rfl (Nat.le_of_ble_eq_true rfl) dX9_writeSky_1) ?_
  refine lv_if_ne (tgt := 9) hx hb dX9_writeSky_4 (by decide) (fun c_4 => ?_) (fun c_4 => absurd c_4 (bI_n0.mpr (winB_nI (by omega))))
  have n_4 := bI_n0.mp c_4
  refine lv_aload_n hx hb dX9_writeSky_9 rfl (lv_at hl 0 rfl) ?_
  refine g_get (ci := 8) (v := .ref (g 4)) h0 hF inX9 hob.1 0 rfl rfl 6 (by decide) wf_X9_47 rfl rfl dX9_writeSky_10 ?_
  refine lv_iconst (v := 0) hx hb dX9_writeSky_13 (by decide) ?_
  obtain ⟨lv, lcap, lml, lbs, hlt, -⟩ := id hlb
  refine core_m (A1 := fun q => ow q = 25 ∨ s.heap.size ≤ q) (grV (Bh := (fun H1 => bfH X ow 25 (g 4) (ln) co H1 ∧ s.heap.size ≤ H1.size)) (n := 1) (As := [.int 0]) (rest := []) h0 hF (m_J4_setLength h0 (ow := ow) (t := 25) (a := g 4) (n := ln) (N := s.heap.size) (co := co) (fun q h => hz q (by omega)) (Nat.le_trans hG.2.1 hS.1) (by omega)) wm_X9_127 wo_J4_setLength_d00df ws_J4__J4_setLength_d00df wz_J4 wc_J4_setLength_d00df ⟨by decide, by decide, by decide +kernel⟩ rfl ⟨Nat.le_of_ble_eq_true rfl, Nat.le_of_ble_eq_true rfl⟩ (ci := 0) ⟨_, hlt.1 0 _ rfl⟩ rfl ⟨hlb, Nat.le_refl _⟩ hS hAo ⟨Nat.le_of_ble_eq_true rfl, Nat.le_of_ble_eq_true rfl⟩ hl.1 rfl (Nat.le_of_ble_eq_true rfl) dX9_writeSky_14) hS (fun q (h8 : ow q = 25 ∨ s.heap.size ≤ q) => (show X.z ≤ q from h8.elim (fun h => hz q (by omega)) (fun h => Nat.le_trans (Nat.le_trans hG.2.1 hS.1) h))) (fun v' H locs hq' hz1 hk1 hS' => ?_)
  obtain ⟨rfl, ow1, hag, hbf⟩ := hq'
  obtain ⟨ow, hsb, co, hlb⟩ : ∃ ow2, SBP X cm o σ ow2 f g H ∧ ∃ co2, bfH X ow2 25 (g 4) (0) co2 H := ⟨ow1, hsb.line hk1 (Nat.le_refl _) (Nat.le_trans hG.2.1 hS.1) hag (by omega) hbf, _, hbf⟩
  have hS := hS'
  obtain ⟨hz, hob, hsk, hpa, hre, ⟨cw, ew, nu, hcw, hwo⟩, hin, -, hi60⟩ := id hsb
  have hs0 := hsk 0 (by decide)
  refine lv_iconst (v := 0) hx hb dX9_writeSky_17 (by decide) ?_
  have hL : SBL X cm o σ (0) H := ⟨by omega, ow, f, g, co, hsb, hlb⟩
  refine lv_istore_n (lv' := [(2, .int 0), (0, .ref o), (1, .int (nI d))]) hx hb dX9_writeSky_18 rfl hl (by decide) rfl (fun ls hl => ?_)
  have key_19 : ∀ (nf j : Nat), j + nf = σ.1.2 0 → ∀ (n : Nat), n ≤ j → ∀ (H : Heap) (locs : List Loc), SBL X cm o σ n H → va_S (gA X) s.heap H locs → ∀ (ls : Array Slot), lv_has ls 3 [(0, .ref o), (1, .int (nI d)), (2, .int (nI j))] → W p l e ({ frames := 7, cells := 11, slots := 1430, locals := 170 } : Room) s m ([.ref o, .int (nI d)] : List Value).toArray below meth c H locs (1 + j) (130 + 130 * j) (MQ below (qM (fun v H => ∃ L : Nat, v = some (.int (nI L)) ∧ L ≤ 60 ∧ SBH X cm o σ H) (gA X)) ([.ref o, .int (nI d)] : List Value).toArray s 11 1430 (gA X)) (F0 m 19 ls []) := by
    intro nf
    induction nf with
    | zero =>
      intro j hj n hx_j H locs hL hS ls hl
      have hj_e : j = σ.1.2 0 := by omega
      obtain ⟨hn60, ow, f, g, co, hsb, hlb⟩ := hL
      obtain ⟨hz, hob, hsk, hpa, hre, ⟨cw, ew, nu, hcw, hwo⟩, hin, -, hi60⟩ := id hsb
      have hs0 := hsk 0 (by decide)
      refine lv_iload_n hx hb dX9_writeSky_19 rfl (lv_at hl 2 rfl) ?_
      refine lv_aload_n hx hb dX9_writeSky_20 rfl (lv_at hl 0 rfl) ?_
      refine g_get (ci := 8) (v := .ref (f 0 0)) h0 hF inX9 hob.1 0 rfl rfl 0 (by decide) wf_X9_12 rfl rfl dX9_writeSky_21 ?_
      refine g_get (ci := 4) (v := .ref (f 0 1)) h0 hF inX5 hs0.1 0 rfl rfl 0 (by decide) wf_X9_54 rfl rfl dX9_writeSky_24 ?_
      refine g_get (ci := 5) (v := .int (nI (σ.1.2 0))) h0 hF inX6 hs0.1 1 rfl rfl 0 (by decide) wf_X9_58 rfl rfl dX9_writeSky_27 ?_
      refine lv_icmp_ge (tgt := 87) hx hb dX9_writeSky_30 (by decide) (fun c_30 => ?_) (fun c_30 => absurd (nI_le (a := σ.1.2 0) (b := j) (by omega) (by omega)) c_30)
      have n_30 := Int32.not_lt.mpr c_30
      refine lv_aload_n hx hb dX9_writeSky_87 rfl (lv_at hl 0 rfl) ?_
      refine lv_bipush (v := 126) hx hb dX9_writeSky_88 (by decide) ?_
      refine lv_aload_n hx hb dX9_writeSky_90 rfl (lv_at hl 0 rfl) ?_
      refine g_get (ci := 8) (v := .ref (f 0 0)) h0 hF inX9 hob.1 0 rfl rfl 0 (by decide) wf_X9_12 rfl rfl dX9_writeSky_91 ?_
      refine g_get (ci := 4) (v := .ref (f 0 1)) h0 hF inX5 hs0.1 0 rfl rfl 0 (by decide) wf_X9_54 rfl rfl dX9_writeSky_94 ?_
      refine g_get (ci := 5) (v := .ref (f 0 8)) h0 hF inX6 hs0.1 1 rfl rfl 5 (by decide) wf_X9_229 rfl rfl dX9_writeSky_97 ?_
      refine lv_iload_n hx hb dX9_writeSky_100 rfl (lv_at hl 1 rfl) ?_
      refine g_iald hx hb hK hs0.1 8 0 rfl rfl d (rfl) (by omega) (by decide) dX9_writeSky_101 ?_
      refine lv_topE (y := nI (cl σ.1 d)) ((hOc d hd).1) ?_
      refine core_m (A1 := fun q => X.z ≤ q) (grV (Bh := (SBL X cm o σ (n))) (n := 2) (As := [.int 126, .int (nI (cl σ.1 d))]) (rest := []) h0 hF (m_X9_writeIfAny h0 (cm := cm) (o := o) (σ := σ) (n := n) (sg := 126) (w := (cl σ.1 d)) (by omega) (by decide) (by omega)) wm_X9_279 wo_X9_writeIfAny ws_X9__X9_writeIfAny wz_X9 wc_X9_writeIfAny ⟨by decide, by decide, by decide +kernel⟩ rfl ⟨Nat.le_of_ble_eq_true rfl, Nat.le_of_ble_eq_true rfl⟩ (ci := 8) ⟨_, hob.1 0 _ rfl⟩ rfl ⟨by omega, ow, f, g, co, hsb, hlb⟩ hS hAo ⟨by show 1 + j + 2 ≤ 11; omega, by show 130 + 130 * j + 260 ≤ 1430; omega⟩ hl.1 rfl (Nat.le_of_ble_eq_true rfl) dX9_writeSky_102) hS (fun q (h8 : X.z ≤ q) => h8) (fun v' H locs hq' hz1 hk1 hS => ?_)
      obtain ⟨rfl, n1, hn1a, hn1b, hn60, ow, f, g, co, hsb, hlb⟩ := hq'
      obtain ⟨hz, hob, hsk, hpa, hre, ⟨cw, ew, nu, hcw, hwo⟩, hin, -, hi60⟩ := id hsb
      have hs0 := hsk 0 (by decide)
      refine lv_aload_n hx hb dX9_writeSky_105 rfl (lv_at hl 0 rfl) ?_
      refine g_get (ci := 8) (v := .ref (g 4)) h0 hF inX9 hob.1 0 rfl rfl 6 (by decide) wf_X9_47 rfl rfl dX9_writeSky_106 ?_
      obtain ⟨lv, lcap, lml, lbs, hlt, -⟩ := id hlb
      refine core_p (v := .int (nI n1)) (grV (n := 0) (As := []) (rest := []) h0 hF (m_J4_length_8abf5 h0 (ow := ow) (t := 25) (a := g 4) (v := lv) (ml := lml) (n := n1) (cap := lcap) (bs := lbs)) wm_X9_73 wo_J4_length_8abf5 ws_J4__J4_length_8abf5 wz_J4 wc_J4_length_8abf5 ⟨by decide, by decide, by decide +kernel⟩ rfl ⟨Nat.le_of_ble_eq_true rfl, Nat.le_of_ble_eq_true rfl⟩ (ci := 0) ⟨_, hlt.1 0 _ rfl⟩ rfl hlt hS hAo ⟨by show 1 + j + 2 + 0 ≤ 11; omega, by show 130 + 130 * j + 260 + 0 ≤ 1430; omega⟩ hl.1 rfl (Nat.le_of_ble_eq_true rfl) dX9_writeSky_109) ?_
      refine W.widen (k := 11) (n := 1430) (by omega) (by omega) ?_
      exact mm_iret hF hS dX9_writeSky_112 (⟨_, rfl, by omega, ow, f, g, hsb⟩)
    | succ nf ih_19 =>
      intro j hj n hx_j H locs hL hS ls hl
      have hj_l : j < σ.1.2 0 := by omega
      obtain ⟨hn60, ow, f, g, co, hsb, hlb⟩ := hL
      obtain ⟨hz, hob, hsk, hpa, hre, ⟨cw, ew, nu, hcw, hwo⟩, hin, -, hi60⟩ := id hsb
      have hs0 := hsk 0 (by decide)
      refine lv_iload_n hx hb dX9_writeSky_19 rfl (lv_at hl 2 rfl) ?_
      refine lv_aload_n hx hb dX9_writeSky_20 rfl (lv_at hl 0 rfl) ?_
      refine g_get (ci := 8) (v := .ref (f 0 0)) h0 hF inX9 hob.1 0 rfl rfl 0 (by decide) wf_X9_12 rfl rfl dX9_writeSky_21 ?_
      refine g_get (ci := 4) (v := .ref (f 0 1)) h0 hF inX5 hs0.1 0 rfl rfl 0 (by decide) wf_X9_54 rfl rfl dX9_writeSky_24 ?_
      refine g_get (ci := 5) (v := .int (nI (σ.1.2 0))) h0 hF inX6 hs0.1 1 rfl rfl 0 (by decide) wf_X9_58 rfl rfl dX9_writeSky_27 ?_
      refine lv_icmp_ge (tgt := 87) hx hb dX9_writeSky_30 (by decide) (fun c_30 => absurd c_30 (nI_ge (a := j) (b := σ.1.2 0) (by omega) (by omega))) (fun c_30 => ?_)
      have n_30 := Int32.not_le.mp c_30
      refine lv_aload_n hx hb dX9_writeSky_33 rfl (lv_at hl 0 rfl) ?_
      refine g_get (ci := 8) (v := .ref (f 0 0)) h0 hF inX9 hob.1 0 rfl rfl 0 (by decide) wf_X9_12 rfl rfl dX9_writeSky_34 ?_
      refine g_get (ci := 4) (v := .ref (f 0 1)) h0 hF inX5 hs0.1 0 rfl rfl 0 (by decide) wf_X9_54 rfl rfl dX9_writeSky_37 ?_
      refine g_get (ci := 5) (v := .ref (f 0 5)) h0 hF inX6 hs0.1 1 rfl rfl 2 (by decide) wf_X9_143 rfl rfl dX9_writeSky_40 ?_
      refine lv_iload_n hx hb dX9_writeSky_43 rfl (lv_at hl 2 rfl) ?_
      refine g_iald hx hb hK hs0.1 5 0 rfl rfl j (rfl) (by omega) (by decide) dX9_writeSky_44 ?_
      refine lv_iload_n hx hb dX9_writeSky_45 rfl (lv_at hl 1 rfl) ?_
      refine lv_icmp_ne (tgt := 81) hx hb dX9_writeSky_46 (by decide) (fun c_46 => ?_) (fun c_46 => ?_)
      · have hL : SBL X cm o σ (n) H := ⟨by omega, ow, f, g, co, hsb, hlb⟩
        refine lv_iinc (v := nI (j + 1)) (lv' := [(2, .int (nI (j + 1))), (0, .ref o), (1, .int (nI d))]) hx hb dX9_writeSky_81 hl (k := 2) rfl (nI_1 j) (by decide) rfl (fun ls hl => ?_)
        refine lv_goto (tgt := 19) hx hb dX9_writeSky_84 (by decide) ?_
        refine W.widen (k := 1 + (j + 1)) (n := 130 + 130 * (j + 1)) (by omega) (by omega) ?_
        refine ih_19 (j + 1) (by omega) n (by omega) _ _ hL hS ls (lv_eqv (lv_sub (l' := [(0, .ref o), (1, .int (nI d)), (2, .int (nI (j + 1)))]) hl [1, 2, 0] rfl) ?_)
        rfl
      · refine lv_aload_n hx hb dX9_writeSky_49 rfl (lv_at hl 0 rfl) ?_
        refine g_get (ci := 8) (v := .ref (g 4)) h0 hF inX9 hob.1 0 rfl rfl 6 (by decide) wf_X9_47 rfl rfl dX9_writeSky_50 ?_
        refine lv_aload_n hx hb dX9_writeSky_53 rfl (lv_at hl 0 rfl) ?_
        refine g_get (ci := 8) (v := .ref (f 0 0)) h0 hF inX9 hob.1 0 rfl rfl 0 (by decide) wf_X9_12 rfl rfl dX9_writeSky_54 ?_
        refine g_get (ci := 4) (v := .ref (f 0 1)) h0 hF inX5 hs0.1 0 rfl rfl 0 (by decide) wf_X9_54 rfl rfl dX9_writeSky_57 ?_
        refine lv_iload_n hx hb dX9_writeSky_60 rfl (lv_at hl 2 rfl) ?_
        refine core_p (v := .int (bI (isSeen σ.1 j))) (grV (n := 1) (As := [.int (nI j)]) (rest := [.ref (g 4)]) h0 hF (m_X6_isSeen h0 (f := f 0) (k := σ.1) hO  (nI j) j rfl (by omega)) wm_X9_146 wo_X6_isSeen ws_X6__X6_isSeen wz_X6 wc_X6_isSeen ⟨by decide, by decide, by decide +kernel⟩ rfl ⟨Nat.le_of_ble_eq_true rfl, Nat.le_of_ble_eq_true rfl⟩ (ci := 5) ⟨_, hs0.1 1 _ rfl⟩ rfl hs0.1 hS hAo ⟨by show 1 + j + 0 ≤ 11; omega, by show 130 + 130 * j + 0 ≤ 1430; omega⟩ hl.1 rfl (Nat.le_of_ble_eq_true rfl) dX9_writeSky_61) ?_
        refine lv_if_eq (tgt := 72) hx hb dX9_writeSky_64 (by decide) (fun c_64 => ?_) (fun c_64 => ?_)
        · have n_64 := bI_0.mp c_64
          refine lv_bipush (v := 97) hx hb dX9_writeSky_72 (by decide) ?_
          refine lv_iload_n hx hb dX9_writeSky_74 rfl (lv_at hl 2 rfl) ?_
          refine lv_iadd hx hb dX9_writeSky_75 ?_
          refine lv_i2c (v := nI (97 + j)) hx hb dX9_writeSky_76 ((chA j (by omega)).2) ?_
          obtain ⟨lv, lcap, lml, lbs, hlt, -⟩ := id hlb
          refine core_m (A1 := fun q => ow q = 25 ∨ H.size ≤ q) (grV (Bh := (fun H1 => bfH X ow 25 (g 4) (n) co H1 ∧ H.size ≤ H1.size)) (n := 1) (As := [.int (nI (97 + j))]) (rest := []) h0 hF (m_J4_append_c h0 (ow := ow) (t := 25) (a := g 4) (n := n) (N := H.size) (co := co) (fun q h => hz q (by omega)) (Nat.le_trans hG.2.1 hS.1) (cv := (97 + j)) (by omega) (by omega)) wm_X9_77 wo_J4_append_cf468 ws_J4__J4_append_cf468 wz_J4 wc_J4_append_cf468 ⟨by decide, by decide, by decide +kernel⟩ rfl ⟨Nat.le_of_ble_eq_true rfl, Nat.le_of_ble_eq_true rfl⟩ (ci := 0) ⟨_, hlt.1 0 _ rfl⟩ rfl ⟨hlb, Nat.le_refl _⟩ hS hAo ⟨by show 1 + j + 1 ≤ 11; omega, by show 130 + 130 * j + 130 ≤ 1430; omega⟩ hl.1 rfl (Nat.le_of_ble_eq_true rfl) dX9_writeSky_77) hS (fun q (h8 : ow q = 25 ∨ H.size ≤ q) => (show X.z ≤ q from h8.elim (fun h => hz q (by omega)) (fun h => Nat.le_trans (Nat.le_trans hG.2.1 hS.1) h))) (fun v' H locs hq' hz1 hk1 hS' => ?_)
          obtain ⟨rfl, ow1, hag, hbf⟩ := hq'
          obtain ⟨ow, hsb, co, hlb⟩ : ∃ ow2, SBP X cm o σ ow2 f g H ∧ ∃ co2, bfH X ow2 25 (g 4) (n + 1) co2 H := ⟨ow1, hsb.line hk1 (Nat.le_refl _) (Nat.le_trans hG.2.1 hS.1) hag (by omega) hbf, _, hbf⟩
          have hS := hS'
          obtain ⟨hz, hob, hsk, hpa, hre, ⟨cw, ew, nu, hcw, hwo⟩, hin, -, hi60⟩ := id hsb
          have hs0 := hsk 0 (by decide)
          refine lv_pop hx hb dX9_writeSky_80 rfl ?_
          have hL : SBL X cm o σ (n + 1) H := ⟨by omega, ow, f, g, co, hsb, hlb⟩
          refine lv_iinc (v := nI (j + 1)) (lv' := [(2, .int (nI (j + 1))), (0, .ref o), (1, .int (nI d))]) hx hb dX9_writeSky_81 hl (k := 2) rfl (nI_1 j) (by decide) rfl (fun ls hl => ?_)
          refine lv_goto (tgt := 19) hx hb dX9_writeSky_84 (by decide) ?_
          refine W.widen (k := 1 + (j + 1)) (n := 130 + 130 * (j + 1)) (by omega) (by omega) ?_
          refine ih_19 (j + 1) (by omega) (n + 1) (by omega) _ _ hL hS ls (lv_eqv (lv_sub (l' := [(0, .ref o), (1, .int (nI d)), (2, .int (nI (j + 1)))]) hl [1, 2, 0] rfl) ?_)
          rfl
        · have n_64 := bI_n0.mp c_64
          refine lv_bipush (v := 65) hx hb dX9_writeSky_67 (by decide) ?_
          refine lv_goto (tgt := 74) hx hb dX9_writeSky_69 (by decide) ?_
          refine lv_iload_n hx hb dX9_writeSky_74 rfl (lv_at hl 2 rfl) ?_
          refine lv_iadd hx hb dX9_writeSky_75 ?_
          refine lv_i2c (v := nI (65 + j)) hx hb dX9_writeSky_76 ((chA j (by omega)).1) ?_
          obtain ⟨lv, lcap, lml, lbs, hlt, -⟩ := id hlb
          refine core_m (A1 := fun q => ow q = 25 ∨ H.size ≤ q) (grV (Bh := (fun H1 => bfH X ow 25 (g 4) (n) co H1 ∧ H.size ≤ H1.size)) (n := 1) (As := [.int (nI (65 + j))]) (rest := []) h0 hF (m_J4_append_c h0 (ow := ow) (t := 25) (a := g 4) (n := n) (N := H.size) (co := co) (fun q h => hz q (by omega)) (Nat.le_trans hG.2.1 hS.1) (cv := (65 + j)) (by omega) (by omega)) wm_X9_77 wo_J4_append_cf468 ws_J4__J4_append_cf468 wz_J4 wc_J4_append_cf468 ⟨by decide, by decide, by decide +kernel⟩ rfl ⟨Nat.le_of_ble_eq_true rfl, Nat.le_of_ble_eq_true rfl⟩ (ci := 0) ⟨_, hlt.1 0 _ rfl⟩ rfl ⟨hlb, Nat.le_refl _⟩ hS hAo ⟨by show 1 + j + 1 ≤ 11; omega, by show 130 + 130 * j + 130 ≤ 1430; omega⟩ hl.1 rfl (Nat.le_of_ble_eq_true rfl) dX9_writeSky_77) hS (fun q (h8 : ow q = 25 ∨ H.size ≤ q) => (show X.z ≤ q from h8.elim (fun h => hz q (by omega)) (fun h => Nat.le_trans (Nat.le_trans hG.2.1 hS.1) h))) (fun v' H locs hq' hz1 hk1 hS' => ?_)
          obtain ⟨rfl, ow1, hag, hbf⟩ := hq'
          obtain ⟨ow, hsb, co, hlb⟩ : ∃ ow2, SBP X cm o σ ow2 f g H ∧ ∃ co2, bfH X ow2 25 (g 4) (n + 1) co2 H := ⟨ow1, hsb.line hk1 (Nat.le_refl _) (Nat.le_trans hG.2.1 hS.1) hag (by omega) hbf, _, hbf⟩
          have hS := hS'
          obtain ⟨hz, hob, hsk, hpa, hre, ⟨cw, ew, nu, hcw, hwo⟩, hin, -, hi60⟩ := id hsb
          have hs0 := hsk 0 (by decide)
          refine lv_pop hx hb dX9_writeSky_80 rfl ?_
          have hL : SBL X cm o σ (n + 1) H := ⟨by omega, ow, f, g, co, hsb, hlb⟩
          refine lv_iinc (v := nI (j + 1)) (lv' := [(2, .int (nI (j + 1))), (0, .ref o), (1, .int (nI d))]) hx hb dX9_writeSky_81 hl (k := 2) rfl (nI_1 j) (by decide) rfl (fun ls hl => ?_)
          refine lv_goto (tgt := 19) hx hb dX9_writeSky_84 (by decide) ?_
          refine W.widen (k := 1 + (j + 1)) (n := 130 + 130 * (j + 1)) (by omega) (by omega) ?_
          refine ih_19 (j + 1) (by omega) (n + 1) (by omega) _ _ hL hS ls (lv_eqv (lv_sub (l' := [(0, .ref o), (1, .int (nI d)), (2, .int (nI (j + 1)))]) hl [1, 2, 0] rfl) ?_)
          rfl
  refine W.widen (k := 1 + 0) (n := 130 + 130 * 0) (by omega) (by omega) ?_
  exact key_19 (σ.1.2 0) 0 (by omega) 0 (by omega) _ _ hL hS ls (lv_sub hl [1, 2, 0] rfl)
