/-- the place of the fault, told -/
def sbF (σ : Sb) (e : Int32) : Sb := (σ.1, σ.2.1, σ.2.2.1, σ.2.2.2.1, (fun i => if i = 4 then e else σ.2.2.2.2.1 i), σ.2.2.2.2.2)

set_option maxHeartbeats 4000000 in
set_option maxRecDepth 100000 in
theorem m_X9_carryOutInput_bad {X : Cx} {l : Launch} (h0 : Init X) {cm : Nat → Nat} {o : Nat} {σ : Sb} {qf : Nat → Nat} {tc : Nat} (hW : StW X cm qf tc) {t : List Nat} (hbad : ∀ e u, (ccR t 60 1 0 e u).1 = -2) (ht60 : t.length ≤ 60) (ht1 : σ.2.2.2.1 3 = t.length) (ht2 : ∀ j, j < σ.2.2.2.1 3 → σ.2.2.2.2.2 j = t.getD j 0) : MM X l yX9_carryOutInput cX9_carryOutInput 5 (some .int) 7 161 0 0 [.ref o] (SBH X cm o σ) (fun v H => v = some (.int (-2)) ∧ ∃ e, SBH X cm o (sbF σ e) H) (gA X) := by
  refine Met.mk (Bh := (SBH X cm o σ)) (by decide) (Nat.le_of_ble_eq_true rfl) ?_
  intro p e s m below meth c ls hF hB hl
  obtain ⟨ow, f, g, hsb⟩ := hB
  obtain ⟨hz, hob, hsk, hpa, hre, ⟨cw, ew, nu, hcw, hwo⟩, hin, -, hi60⟩ := id hsb
  have hs0 := hsk 0 (by decide)
  have hit0 := hin.txt ht1 ht2
  have hl : lv_has ls 5 [(0, .ref o)] := hl
  obtain ⟨hx, hb, hml, hr, hlk, hown, hG⟩ := id hF
  have hK := hG.K h0
  have hS : va_S (gA X) s.heap s.heap [] := va_S.rf
  have hAo : ∀ q, q < X.z → ¬ gA X q := fun q h9 (h8 : X.z ≤ q) => absurd h8 (by omega)
  refine lv_aload_n hx hb dX9_carryOutInput_0 rfl (lv_at hl 0 rfl) ?_
  refine g_get (ci := 8) (v := .ref (g 2)) h0 hF inX9 hob.1 0 rfl rfl 4 (by decide) wf_X9_36 rfl rfl dX9_carryOutInput_1 ?_
  refine lv_aload_n hx hb dX9_carryOutInput_4 rfl (lv_at hl 0 rfl) ?_
  refine g_get (ci := 8) (v := .ref (g 3)) h0 hF inX9 hob.1 0 rfl rfl 5 (by decide) wf_X9_43 rfl rfl dX9_carryOutInput_5 ?_
  refine core_m (A1 := fun q => ow q = 23) (grV (Bh := (fun H => Tw X ow 23 (woW X g (cm cw) ew nu) H ∧ bfH X ow 24 (g 3) t.length (fun j => t.getD j 0) H)) (n := 1) (As := [.ref (g 3)]) (rest := []) h0 hF (m_X8_countCommands h0 (cm := cm) (qf := qf) (tc := tc) hW (ow := ow) (g := g) (cw := cw) hcw (e0 := ew) (nu := nu) (t := t) ht60 (fun q h => hz q (by omega))) wm_X9_393 wo_X8_countCommands ws_X8__X8_countCommands wz_X8 wc_X8_countCommands ⟨by decide, by decide, by decide +kernel⟩ rfl ⟨Nat.le_of_ble_eq_true rfl, Nat.le_of_ble_eq_true rfl⟩ (ci := 7) ⟨_, hwo.1 0 _ rfl⟩ rfl ⟨hwo, hit0⟩ hS hAo ⟨Nat.le_of_ble_eq_true rfl, Nat.le_of_ble_eq_true rfl⟩ hl.1 rfl (Nat.le_of_ble_eq_true rfl) dX9_carryOutInput_8) hS (fun q (h8 : ow q = 23) => (show X.z ≤ q from hz q (by omega))) (fun v' H locs hq' hz1 hk1 hS => ?_)
  obtain ⟨rfl, ⟨cw, hcw, hwo⟩, -⟩ := hq'
  have hsb := hsb.wo hk1 hcw hwo
  obtain ⟨hz, hob, hsk, hpa, hre, -, hin, -, hi60⟩ := id hsb
  have hs0 := hsk 0 (by decide)
  have hit0 := hin.txt ht1 ht2
  refine lv_topE (y := (-2)) (hbad _ _) ?_
  refine lv_istore_n (lv' := [(1, .int (-2)), (0, .ref o)]) hx hb dX9_carryOutInput_11 rfl hl (by decide) rfl (fun ls hl => ?_)
  refine lv_iload_n hx hb dX9_carryOutInput_12 rfl (lv_at hl 0 rfl) ?_
  refine lv_if_ge (tgt := 30) hx hb dX9_carryOutInput_13 (by decide) (fun c_13 => absurd c_13 (by decide)) (fun c_13 => ?_)
  refine lv_aload_n hx hb dX9_carryOutInput_16 rfl (lv_at hl 1 rfl) ?_
  refine lv_aload_n hx hb dX9_carryOutInput_17 rfl (lv_at hl 1 rfl) ?_
  refine g_get (ci := 8) (v := .ref (g 2)) h0 hF inX9 hob.1 0 rfl rfl 4 (by decide) wf_X9_36 rfl rfl dX9_carryOutInput_18 ?_
  refine g_get (ci := 7) (v := .int ((ccR t 60 1 0 ew nu).2.1)) h0 hF inX8 hwo.1 0 rfl rfl 1 (by decide) wf_X9_397 rfl rfl dX9_carryOutInput_21 ?_
  have htg := hob.tag 0 rfl
  refine g_put (ci := 8) h0 hF inX9 tyX9 tyX9_ok nmX9 hob hS (hz _ (by rw [htg]; decide)) 0 rfl rfl 8 (by decide) wf_X9_50 rfl rfl (tyX9_ok 8 (by decide)) rfl rfl (Nat.le_of_ble_eq_true rfl) dX9_carryOutInput_24 (fun H locs oq hob' hS => ?_)
  have hwo := hwo.fr1 oq (by rw [htg]; decide)
  have hob : Tw X ow 20 (obW o f g (sbF σ ((ccR t 60 1 0 ew nu).2.1))) H := hob'
  refine lv_bipush (v := (-2)) hx hb dX9_carryOutInput_27 (by decide) ?_
  exact mm_iret hF hS dX9_carryOutInput_29 (⟨rfl, _, ow, f, g, hsb.ob (σ' := sbF σ (ccR t 60 1 0 ew nu).2.1) oq hob rfl rfl rfl rfl rfl rfl (fun i hi => if_neg (by omega)) rfl⟩)

set_option maxHeartbeats 4000000 in
set_option maxRecDepth 100000 in
theorem m_X9_read_bad {X : Cx} {l : Launch} (h0 : Init X) {cm : Nat → Nat} {o : Nat} {σ : Sb} {qf : Nat → Nat} {tc : Nat} (hW : StW X cm qf tc) {t : List Nat} (hbad : ∀ e u, (ccR t 60 1 0 e u).1 = -2) (ht60 : t.length ≤ 60) (ht1 : σ.2.2.2.1 3 = t.length) (ht2 : ∀ j, j < σ.2.2.2.1 3 → σ.2.2.2.2.2 j = t.getD j 0) : MM X l yX9_read cX9_read 2 (some .int) 8 185 1 130 [.ref o] (SBH X cm o σ) (fun v H => v = some (.int (-2)) ∧ ∃ e, SBH X cm o (sbIn (sbF σ e) 0 σ.2.2.2.2.2) H) (gA X) := by
  refine Met.mk (Bh := (SBH X cm o σ)) (by decide) (Nat.le_of_ble_eq_true rfl) ?_
  intro p e s m below meth c ls hF hB hl
  obtain ⟨ow, f, g, hsb⟩ := hB
  obtain ⟨hz, hob, hsk, hpa, hre, ⟨cw, ew, nu, hcw, hwo⟩, hin, ⟨ln, co, hln, hlb⟩, hi60⟩ := id hsb
  have hs0 := hsk 0 (by decide)
  have hl : lv_has ls 2 [(0, .ref o)] := hl
  obtain ⟨hx, hb, hml, hr, hlk, hown, hG⟩ := id hF
  have hK := hG.K h0
  have hS : va_S (gA X) s.heap s.heap [] := va_S.rf
  have hAo : ∀ q, q < X.z → ¬ gA X q := fun q h9 (h8 : X.z ≤ q) => absurd h8 (by omega)
  refine lv_aload_n hx hb dX9_read_0 rfl (lv_at hl 0 rfl) ?_
  refine core_m (A1 := fun q => X.z ≤ q) (grV (Bh := (SBH X cm o σ)) (n := 0) (As := []) (rest := []) h0 hF (m_X9_carryOutInput_bad h0 (cm := cm) (o := o) (σ := σ) hW hbad ht60 ht1 ht2) wm_X9_124 wo_X9_carryOutInput ws_X9__X9_carryOutInput wz_X9 wc_X9_carryOutInput ⟨by decide, by decide, by decide +kernel⟩ rfl ⟨Nat.le_of_ble_eq_true rfl, Nat.le_of_ble_eq_true rfl⟩ (ci := 8) ⟨_, hob.1 0 _ rfl⟩ rfl ⟨ow, f, g, hsb⟩ hS hAo ⟨Nat.le_of_ble_eq_true rfl, Nat.le_of_ble_eq_true rfl⟩ hl.1 rfl (Nat.le_of_ble_eq_true rfl) dX9_read_1) hS (fun q h8 => h8) (fun v' H locs hq' hz1 hk1 hS => ?_)
  obtain ⟨rfl, e9, ow, f, g, hsb⟩ := hq'
  obtain ⟨hz, hob, hsk, hpa, hre, ⟨cw, ew, nu, hcw, hwo⟩, hin, -, hi60⟩ := id hsb
  have hs0 := hsk 0 (by decide)
  refine lv_istore_n (lv' := [(1, .int (-2)), (0, .ref o)]) hx hb dX9_read_4 rfl hl (by decide) rfl (fun ls hl => ?_)
  refine lv_aload_n hx hb dX9_read_5 rfl (lv_at hl 1 rfl) ?_
  refine g_get (ci := 8) (v := .ref (g 3)) h0 hF inX9 hob.1 0 rfl rfl 5 (by decide) wf_X9_43 rfl rfl dX9_read_6 ?_
  refine lv_iconst (v := 0) hx hb dX9_read_9 (by decide) ?_
  obtain ⟨lv, lcap, lml, lbs, hit, -⟩ := id hin
  refine core_m (A1 := fun q => ow q = 24 ∨ H.size ≤ q) (grV (Bh := (fun H1 => bfH X ow 24 (g 3) (((sbF σ e9).2.2.2.1 3)) (sbF σ e9).2.2.2.2.2 H1 ∧ H.size ≤ H1.size)) (n := 1) (As := [.int 0]) (rest := []) h0 hF (m_J4_setLength h0 (ow := ow) (t := 24) (a := g 3) (n := ((sbF σ e9).2.2.2.1 3)) (N := H.size) (co := (sbF σ e9).2.2.2.2.2) (fun q h => hz q (by omega)) (Nat.le_trans hG.2.1 hS.1) (by omega)) wm_X9_127 wo_J4_setLength_d00df ws_J4__J4_setLength_d00df wz_J4 wc_J4_setLength_d00df ⟨by decide, by decide, by decide +kernel⟩ rfl ⟨Nat.le_of_ble_eq_true rfl, Nat.le_of_ble_eq_true rfl⟩ (ci := 0) ⟨_, hit.1 0 _ rfl⟩ rfl ⟨hin, Nat.le_refl _⟩ hS hAo ⟨Nat.le_of_ble_eq_true rfl, Nat.le_of_ble_eq_true rfl⟩ hl.1 rfl (Nat.le_of_ble_eq_true rfl) dX9_read_10) hS (fun q (h8 : ow q = 24 ∨ H.size ≤ q) => (show X.z ≤ q from h8.elim (fun h => hz q (by omega)) (fun h => Nat.le_trans (Nat.le_trans hG.2.1 hS.1) h))) (fun v' H locs hq' hz1 hk1 hS' => ?_)
  obtain ⟨rfl, ow1, hag, hbf⟩ := hq'
  obtain ⟨ow, hsb⟩ : ∃ ow2, SBP X cm o (sbIn (sbF σ e9) (0) (σ.2.2.2.2.2)) ow2 f g H := ⟨ow1, hsb.inp hk1 (Nat.le_refl _) (Nat.le_trans hG.2.1 hS.1) hag (by omega) hbf⟩
  have hS := hS'
  obtain ⟨hz, hob, hsk, hpa, hre, ⟨cw, ew, nu, hcw, hwo⟩, hin, -, hi60⟩ := id hsb
  have hs0 := hsk 0 (by decide)
  refine lv_iload_n hx hb dX9_read_13 rfl (lv_at hl 0 rfl) ?_
  refine W.widen (k := 1) (n := 130) (by omega) (by omega) ?_
  exact mm_iret hF hS dX9_read_14 (⟨rfl, e9, ow, f, g, hsb⟩)

theorem cc_nil (e : Int32) (u : Nat → Int32) : (ccR [] 60 1 0 e u).1 = -2 := by rfl
theorem GC.scr {X : Cx} {U : State} (h : GC X U) {L : Nat} {xs : Nat → Int32} (hX : va_X X.b L xs X.s X.s.heap) (hb : X.b < X.z) : va_X X.b L xs U U.heap := (hX.moved h.1.alike).kept (h.2.2 X.b hb)
theorem cell_ix {i L : Nat} (hi : i < 65536) (h0 : 0 < L) (hL : L < 1000) : (nI i &&& 65535) - (nI i &&& 65535) / nI L * nI L = nI (i % L) := by
  have e : nI i &&& 65535 = nI i := by
    rw [pk_andN (by omega) 16 (by decide)]
    rw [Nat.mod_eq_of_lt (by omega)]
  rw [e, pk_rem (by omega) h0 (by omega)]

set_option maxHeartbeats 4000000 in
set_option maxRecDepth 100000 in
theorem m_L_cell {X : Cx} {l : Launch} (h0 : Init X) {L : Nat} {xs : Nat → Int32} (hX : va_X X.b L xs X.s X.s.heap) (hbz : X.b < X.z) (hL0 : 0 < L) (hL : L ≤ 260) {i : Nat} (hi : i < 65536) : PM X l yL_cell cL_cell 2 (some .int) 0 0 [.ref X.b, .int (nI i)] noW (.int (xs (i % L))) := by
  refine Met.mk (Bh := noW) (by decide) (Nat.le_of_ble_eq_true rfl) ?_
  intro p e s m below meth c ls hF hB hl
  have hl : lv_has ls 2 [(0, .ref X.b), (1, .int (nI i))] := hl
  obtain ⟨hx, hb, hml, hr, hlk, hown, hG⟩ := id hF
  have hK := hG.K h0
  have hS : va_S noA s.heap s.heap [] := va_S.rf
  refine lv_aload_n hx hb dL_cell_0 rfl (lv_at hl 0 rfl) ?_
  refine va_slen hx hb (hG.scr hX hbz) (Nat.lt_of_lt_of_le hbz hG.2.1) (fun h => h) hS dL_cell_1 ?_
  refine lv_if_ne (tgt := 13) hx hb dL_cell_2 (by decide) (fun c_2 => ?_) (fun c_2 => absurd c_2 (nI_ne0 hL0 (by omega)))
  refine lv_aload_n hx hb dL_cell_13 rfl (lv_at hl 0 rfl) ?_
  refine lv_iload_n hx hb dL_cell_14 rfl (lv_at hl 1 rfl) ?_
  refine lv_ldc hx hb hown (hG.hts h0 _ _ wn_L_9) dL_cell_15 ?_
  refine lv_iand hx hb dL_cell_17 ?_
  refine lv_aload_n hx hb dL_cell_18 rfl (lv_at hl 0 rfl) ?_
  refine va_slen hx hb (hG.scr hX hbz) (Nat.lt_of_lt_of_le hbz hG.2.1) (fun h => h) hS dL_cell_19 ?_
  refine lv_irem hx hb dL_cell_20 (nI_ne0 hL0 (by omega)) ?_
  refine lv_topE (y := nI (i % L)) (cell_ix hi hL0 (by omega)) ?_
  refine va_sld hx hb (hG.scr hX hbz) (Nat.lt_of_lt_of_le hbz hG.2.1) (fun h => h) hS (vp_in_nI (Nat.mod_lt i hL0) (by omega)) dL_cell_21 ?_
  rw [nI_clamp (show i % L < 2 ^ 31 from by have := Nat.mod_lt i hL0; omega)]
  exact pm_iret hF dL_cell_22 (rfl)
