set_option maxHeartbeats 4000000 in
set_option maxRecDepth 100000 in
theorem m_X9_append {X : Cx} {l : Launch} (h0 : Init X) {cm : Nat → Nat} {o : Nat} {σ : Sb} {cv : Nat} (hc1 : 32 ≤ cv) (hc2 : cv ≤ 126) (hn : σ.2.2.2.1 3 < 60) : MM X l yX9_append cX9_append 2 (some .int) 6 146 1 130 [.ref o, .int (nI cv)] (SBH X cm o σ) (fun v H => v = some (.int (nI (σ.2.2.2.1 3 + 1))) ∧ SBH X cm o (sbIn σ (σ.2.2.2.1 3 + 1) (fun j => if j = σ.2.2.2.1 3 then cv else σ.2.2.2.2.2 j)) H) (gA X) := by
  refine Met.mk (Bh := (SBH X cm o σ)) (by decide) (Nat.le_of_ble_eq_true rfl) ?_
  intro p e s m below meth c ls hF hB hl
  obtain ⟨ow, f, g, hsb⟩ := hB
  obtain ⟨hz, hob, hsk, hpa, hre, ⟨cw, ew, nu, hcw, hwo⟩, hin, ⟨ln, co, hln, hlb⟩, hi60⟩ := id hsb
  have hs0 := hsk 0 (by decide)
  have hl : lv_has ls 2 [(0, .ref o), (1, .int (nI cv))] := hl
  obtain ⟨hx, hb, hml, hr, hlk, hown, hG⟩ := id hF
  have hK := hG.K h0
  have hS : va_S (gA X) s.heap s.heap [] := va_S.rf
  have hAo : ∀ q, q < X.z → ¬ gA X q := fun q h9 (h8 : X.z ≤ q) => absurd h8 (by omega)
  refine lv_iload_n hx hb dX9_append_0 rfl (lv_at hl 1 rfl) ?_
  refine lv_bipush (v := 32) hx hb dX9_append_1 (by decide) ?_
  refine lv_bipush (v := 126) hx hb dX9_append_3 (by decide) ?_
  refine core_p (v := .int (bI (winB (nI cv) 32 126))) (grS (n := 3) (As := [.int (nI cv), .int 32, .int 126]) (rest := []) h0 hF (m_X9_isWithin h0 (nI cv) 32 126) wm_X9_69 wt_X9_isWithin wz_X9 wc_X9_isWithin ⟨by decide, by decide, by decide +kernel⟩ rfl ⟨Nat.le_of_ble_eq_true rfl, Nat.le_of_ble_eq_true rfl⟩ trivial hS hAo ⟨Nat.le_of_ble_eq_true rfl, Nat.le_of_ble_eq_true rfl⟩ hl.1 rfl (Nat.le_of_ble_eq_true rfl) dX9_append_5) ?_
  refine lv_if_eq (tgt := 23) hx hb dX9_append_8 (by decide) (fun c_8 => absurd c_8 (bI_n0.mpr (decide_eq_true ⟨nI_le (a := 32) (b := cv) hc1 (by omega), nI_le (a := cv) (b := 126) hc2 (by omega)⟩))) (fun c_8 => ?_)
  have n_8 := bI_n0.mp c_8
  refine lv_aload_n hx hb dX9_append_11 rfl (lv_at hl 0 rfl) ?_
  refine g_get (ci := 8) (v := .ref (g 3)) h0 hF inX9 hob.1 0 rfl rfl 5 (by decide) wf_X9_43 rfl rfl dX9_append_12 ?_
  obtain ⟨lv, lcap, lml, lbs, hit, -⟩ := id hin
  refine core_p (v := .int (nI (σ.2.2.2.1 3))) (grV (n := 0) (As := []) (rest := []) h0 hF (m_J4_length_8abf5 h0 (ow := ow) (t := 24) (a := g 3) (v := lv) (ml := lml) (n := σ.2.2.2.1 3) (cap := lcap) (bs := lbs)) wm_X9_73 wo_J4_length_8abf5 ws_J4__J4_length_8abf5 wz_J4 wc_J4_length_8abf5 ⟨by decide, by decide, by decide +kernel⟩ rfl ⟨Nat.le_of_ble_eq_true rfl, Nat.le_of_ble_eq_true rfl⟩ (ci := 0) ⟨_, hit.1 0 _ rfl⟩ rfl hit hS hAo ⟨Nat.le_of_ble_eq_true rfl, Nat.le_of_ble_eq_true rfl⟩ hl.1 rfl (Nat.le_of_ble_eq_true rfl) dX9_append_15) ?_
  refine lv_bipush (v := 60) hx hb dX9_append_18 (by decide) ?_
  refine lv_icmp_lt (tgt := 26) hx hb dX9_append_20 (by decide) (fun c_20 => ?_) (fun c_20 => absurd (nI_lt (a := σ.2.2.2.1 3) (b := 60) hn (by decide)) c_20)
  have n_20 := Int32.not_le.mpr c_20
  refine lv_aload_n hx hb dX9_append_26 rfl (lv_at hl 0 rfl) ?_
  refine g_get (ci := 8) (v := .ref (g 3)) h0 hF inX9 hob.1 0 rfl rfl 5 (by decide) wf_X9_43 rfl rfl dX9_append_27 ?_
  refine lv_iload_n hx hb dX9_append_30 rfl (lv_at hl 1 rfl) ?_
  obtain ⟨lv, lcap, lml, lbs, hit, -⟩ := id hin
  refine core_m (A1 := fun q => ow q = 24 ∨ s.heap.size ≤ q) (grV (Bh := (fun H1 => bfH X ow 24 (g 3) (σ.2.2.2.1 3) σ.2.2.2.2.2 H1 ∧ s.heap.size ≤ H1.size)) (n := 1) (As := [.int (nI cv)]) (rest := []) h0 hF (m_J4_append_c h0 (ow := ow) (t := 24) (a := g 3) (n := σ.2.2.2.1 3) (N := s.heap.size) (co := σ.2.2.2.2.2) (fun q h => hz q (by omega)) (Nat.le_trans hG.2.1 hS.1) (cv := cv) (by omega) (by omega)) wm_X9_77 wo_J4_append_cf468 ws_J4__J4_append_cf468 wz_J4 wc_J4_append_cf468 ⟨by decide, by decide, by decide +kernel⟩ rfl ⟨Nat.le_of_ble_eq_true rfl, Nat.le_of_ble_eq_true rfl⟩ (ci := 0) ⟨_, hit.1 0 _ rfl⟩ rfl ⟨hin, Nat.le_refl _⟩ hS hAo ⟨Nat.le_of_ble_eq_true rfl, Nat.le_of_ble_eq_true rfl⟩ hl.1 rfl (Nat.le_of_ble_eq_true rfl) dX9_append_31) hS (fun q (h8 : ow q = 24 ∨ s.heap.size ≤ q) => (show X.z ≤ q from h8.elim (fun h => hz q (by omega)) (fun h => Nat.le_trans (Nat.le_trans hG.2.1 hS.1) h))) (fun v' H locs hq' hz1 hk1 hS' => ?_)
  obtain ⟨rfl, ow1, hag, hbf⟩ := hq'
  obtain ⟨ow, hsb⟩ : ∃ ow2, SBP X cm o (sbIn σ (σ.2.2.2.1 3 + 1) ((fun j => if j = σ.2.2.2.1 3 then cv else σ.2.2.2.2.2 j))) ow2 f g H := ⟨ow1, hsb.inp hk1 (Nat.le_refl _) (Nat.le_trans hG.2.1 hS.1) hag (by omega) hbf⟩
  have hS := hS'
  obtain ⟨hz, hob, hsk, hpa, hre, ⟨cw, ew, nu, hcw, hwo⟩, hin, -, hi60⟩ := id hsb
  have hs0 := hsk 0 (by decide)
  refine lv_pop hx hb dX9_append_34 rfl ?_
  refine lv_aload_n hx hb dX9_append_35 rfl (lv_at hl 0 rfl) ?_
  refine g_get (ci := 8) (v := .ref (g 3)) h0 hF inX9 hob.1 0 rfl rfl 5 (by decide) wf_X9_43 rfl rfl dX9_append_36 ?_
  obtain ⟨lv, lcap, lml, lbs, hit, -⟩ := id hin
  refine core_p (v := .int (nI (σ.2.2.2.1 3 + 1))) (grV (n := 0) (As := []) (rest := []) h0 hF (m_J4_length_8abf5 h0 (ow := ow) (t := 24) (a := g 3) (v := lv) (ml := lml) (n := σ.2.2.2.1 3 + 1) (cap := lcap) (bs := lbs)) wm_X9_73 wo_J4_length_8abf5 ws_J4__J4_length_8abf5 wz_J4 wc_J4_length_8abf5 ⟨by decide, by decide, by decide +kernel⟩ rfl ⟨Nat.le_of_ble_eq_true rfl, Nat.le_of_ble_eq_true rfl⟩ (ci := 0) ⟨_, hit.1 0 _ rfl⟩ rfl hit hS hAo ⟨Nat.le_of_ble_eq_true rfl, Nat.le_of_ble_eq_true rfl⟩ hl.1 rfl (Nat.le_of_ble_eq_true rfl) dX9_append_39) ?_
  refine W.widen (k := 1) (n := 130) (by omega) (by omega) ?_
  exact mm_iret hF hS dX9_append_42 (⟨rfl, ow, f, g, hsb⟩)

set_option maxHeartbeats 4000000 in
set_option maxRecDepth 100000 in
theorem m_X9_read {X : Cx} {l : Launch} (h0 : Init X) {cm : Nat → Nat} {o : Nat} {σ : Sb} {qf : Nat → Nat} {sm tc : Nat} (hC : StC X cm sm) (hW : StW X cm qf tc) (hO : Ok σ.1) (hP : Okp σ) (hOO : ∀ (k : Sk) (E : Nat → Int32) (cd : Nat) (a b c : Int32), Ok k → Ok (oCmd k E cd a b c).2.1) {t : List Nat} {L : List Pc} (hPr : Prs t L) (ht60 : t.length ≤ 60) (ht1 : σ.2.2.2.1 3 = t.length) (ht2 : ∀ j, j < σ.2.2.2.1 3 → σ.2.2.2.2.2 j = t.getD j 0) : MM X l yX9_read cX9_read 2 (some .int) 8 185 1 130 [.ref o] (SBH X cm o σ) (fun v H => v = some (.int (cinR σ L).1) ∧ SBH X cm o (sbIn (cinR σ L).2 0 ((cinR σ L).2.2.2.2.2.2)) H) (gA X) := by
  refine Met.mk (Bh := (SBH X cm o σ)) (by decide) (Nat.le_of_ble_eq_true rfl) ?_
  intro p e s m below meth c ls hF hB hl
  obtain ⟨ow, f, g, hsb⟩ := hB
  obtain ⟨hz, hob, hsk, hpa, hre, ⟨cw, ew, nu, hcw, hwo⟩, hin, ⟨ln, co, hln, hlb⟩, hi60⟩ := id hsb
  have hs0 := hsk 0 (by decide)
  have hl : lv_has ls 2 [(0, .ref o)] := hl
  obtain ⟨hx, hb, hml, hr, hlk, hown, hG⟩ := id hF
  have hK := hG.K h0
  have hS : va_S (gA X) s.heap s.heap [] := va_S.rf
  have hAo : ∀ q, q < X.z → ¬ gA X q := fun q h9 (h8 : X.z ≤ q) => absurd h8 (by omega)
  refine lv_aload_n hx hb dX9_read_0 rfl (lv_at hl 0 rfl) ?_
  refine core_m (A1 := fun q => X.z ≤ q) (grV (Bh := (SBH X cm o σ)) (n := 0) (As := []) (rest := []) h0 hF (m_X9_carryOutInput h0 (cm := cm) (o := o) (σ := σ) hC hW hO hP hOO hPr ht60 ht1 ht2) wm_X9_124 wo_X9_carryOutInput ws_X9__X9_carryOutInput wz_X9 wc_X9_carryOutInput ⟨by decide, by decide, by decide +kernel⟩ rfl ⟨Nat.le_of_ble_eq_true rfl, Nat.le_of_ble_eq_true rfl⟩ (ci := 8) ⟨_, hob.1 0 _ rfl⟩ rfl ⟨ow, f, g, hsb⟩ hS hAo ⟨Nat.le_of_ble_eq_true rfl, Nat.le_of_ble_eq_true rfl⟩ hl.1 rfl (Nat.le_of_ble_eq_true rfl) dX9_read_1) hS (fun q h8 => h8) (fun v' H locs hq' hz1 hk1 hS => ?_)
  obtain ⟨rfl, ow, f, g, hsb⟩ := hq'
  obtain ⟨hz, hob, hsk, hpa, hre, ⟨cw, ew, nu, hcw, hwo⟩, hin, -, hi60⟩ := id hsb
  have hs0 := hsk 0 (by decide)
  refine lv_istore_n (lv' := [(1, .int ((cinR σ L).1)), (0, .ref o)]) hx hb dX9_read_4 rfl hl (by decide) rfl (fun ls hl => ?_)
  refine lv_aload_n hx hb dX9_read_5 rfl (lv_at hl 1 rfl) ?_
  refine g_get (ci := 8) (v := .ref (g 3)) h0 hF inX9 hob.1 0 rfl rfl 5 (by decide) wf_X9_43 rfl rfl dX9_read_6 ?_
  refine lv_iconst (v := 0) hx hb dX9_read_9 (by decide) ?_
  obtain ⟨lv, lcap, lml, lbs, hit, -⟩ := id hin
  refine core_m (A1 := fun q => ow q = 24 ∨ H.size ≤ q) (grV (Bh := (fun H1 => bfH X ow 24 (g 3) (((cinR σ L).2.2.2.2.1 3)) ((cinR σ L).2.2.2.2.2.2) H1 ∧ H.size ≤ H1.size)) (n := 1) (As := [.int 0]) (rest := []) h0 hF (m_J4_setLength h0 (ow := ow) (t := 24) (a := g 3) (n := ((cinR σ L).2.2.2.2.1 3)) (N := H.size) (co := ((cinR σ L).2.2.2.2.2.2)) (fun q h => hz q (by omega)) (Nat.le_trans hG.2.1 hS.1) (by omega)) wm_X9_127 wo_J4_setLength_d00df ws_J4__J4_setLength_d00df wz_J4 wc_J4_setLength_d00df ⟨by decide, by decide, by decide +kernel⟩ rfl ⟨Nat.le_of_ble_eq_true rfl, Nat.le_of_ble_eq_true rfl⟩ (ci := 0) ⟨_, hit.1 0 _ rfl⟩ rfl ⟨hin, Nat.le_refl _⟩ hS hAo ⟨Nat.le_of_ble_eq_true rfl, Nat.le_of_ble_eq_true rfl⟩ hl.1 rfl (Nat.le_of_ble_eq_true rfl) dX9_read_10) hS (fun q (h8 : ow q = 24 ∨ H.size ≤ q) => (show X.z ≤ q from h8.elim (fun h => hz q (by omega)) (fun h => Nat.le_trans (Nat.le_trans hG.2.1 hS.1) h))) (fun v' H locs hq' hz1 hk1 hS' => ?_)
  obtain ⟨rfl, ow1, hag, hbf⟩ := hq'
  obtain ⟨ow, hsb⟩ : ∃ ow2, SBP X cm o (sbIn ((cinR σ L).2) (0) ((cinR σ L).2.2.2.2.2.2)) ow2 f g H := ⟨ow1, hsb.inp hk1 (Nat.le_refl _) (Nat.le_trans hG.2.1 hS.1) hag (by omega) hbf⟩
  have hS := hS'
  obtain ⟨hz, hob, hsk, hpa, hre, ⟨cw, ew, nu, hcw, hwo⟩, hin, -, hi60⟩ := id hsb
  have hs0 := hsk 0 (by decide)
  refine lv_iload_n hx hb dX9_read_13 rfl (lv_at hl 0 rfl) ?_
  refine W.widen (k := 1) (n := 130) (by omega) (by omega) ?_
  exact mm_iret hF hS dX9_read_14 (⟨rfl, ow, f, g, hsb⟩)
