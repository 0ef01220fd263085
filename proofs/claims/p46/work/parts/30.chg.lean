set_option maxHeartbeats 4000000 in
set_option maxRecDepth 100000 in
theorem m_X9_change {X : Cx} {l : Launch} (h0 : Init X) {cm : Nat → Nat} {sm o : Nat} {σ : Sb} (hC : StC X cm sm) (hO : Ok σ.1) (hP : Okp σ) (cd : Nat) (hcd : cd < 12) (a b c1 : Int32) : MM X l yX9_change cX9_change 6 (some .int) 5 144 0 0 [.ref o, .ref (cm cd), .int a, .int b, .int c1] (SBH X cm o σ) (fun v H => v = some (.int (oCmd σ.1 σ.2.2.2.2.1 cd a b c1).1) ∧ SBH X cm o (sbChg σ (oCmd σ.1 σ.2.2.2.2.1 cd a b c1)) H) (gA X) := by
  refine Met.mk (Bh := (SBH X cm o σ)) (by decide) (Nat.le_of_ble_eq_true rfl) ?_
  intro p e s m below meth c ls hF hB hl
  have hB0 := hB
  obtain ⟨ow, f, g, hsb⟩ := hB
  obtain ⟨hz, hob, hsk, hpa, hre, ⟨cw, ew, nu, hcw, hwo⟩, hin, ⟨ln, lc, hln, hli⟩, hi60⟩ := id hsb
  have hs0 := hsk 0 (by decide)
  have hl : lv_has ls 6 [(0, .ref o), (1, .ref (cm cd)), (2, .int a), (3, .int b), (4, .int c1)] := hl
  obtain ⟨hx, hb, hml, hr, hlk, hown, hG⟩ := id hF
  have hK := hG.K h0
  have hS : va_S (gA X) s.heap s.heap [] := va_S.rf
  have hO1 := hO.1
  have hO2 := hO.2.1
  have hO3 := hO.2.2.1
  have hAo : ∀ q, q < X.z → ¬ gA X q := fun q h9 (h8 : X.z ≤ q) => absurd h8 (by omega)
  refine lv_aload_n hx hb dX9_change_0 rfl (lv_at hl 0 rfl) ?_
  refine g_get (ci := 8) (v := .ref (g 0)) h0 hF inX9 hob.1 0 rfl rfl 2 (by decide) wf_X9_22 rfl rfl dX9_change_1 ?_
  refine lv_aload_n hx hb dX9_change_4 rfl (lv_at hl 0 rfl) ?_
  refine g_get (ci := 8) (v := .ref (f 0 0)) h0 hF inX9 hob.1 0 rfl rfl 0 (by decide) wf_X9_12 rfl rfl dX9_change_5 ?_
  refine core_m (A1 := fun q => X.z ≤ q) (grV (n := 1) (As := [.ref (f 0 0)]) (rest := []) h0 hF (m_X2_note h0 (o := o) (cm := cm) (σ := σ) (ow := ow) (f := f) (g := g) hP) wm_X9_337 wo_X2_note ws_X2__X2_note wz_X2 wc_X2_note ⟨by decide, by decide, by decide +kernel⟩ rfl ⟨Nat.le_of_ble_eq_true rfl, Nat.le_of_ble_eq_true rfl⟩ (ci := 1) ⟨_, hpa.1 0 _ rfl⟩ rfl hsb hS hAo ⟨Nat.le_of_ble_eq_true rfl, Nat.le_of_ble_eq_true rfl⟩ hl.1 rfl (Nat.le_of_ble_eq_true rfl) dX9_change_8) hS (fun q (h8 : X.z ≤ q) => (show X.z ≤ q from by have := h8; first | exact this | exact hz q (by omega))) (fun v H locs hq hz1 hk1 hS => ?_)
  obtain ⟨rfl, hsb⟩ := hq
  have hob := hsb.2.1
  refine lv_aload_n hx hb dX9_change_11 rfl (lv_at hl 0 rfl) ?_
  refine lv_aload_n hx hb dX9_change_12 rfl (lv_at hl 1 rfl) ?_
  refine lv_iload_n hx hb dX9_change_13 rfl (lv_at hl 2 rfl) ?_
  refine lv_iload_n hx hb dX9_change_14 rfl (lv_at hl 3 rfl) ?_
  refine lv_iload hx hb dX9_change_15 (lv_at hl 4 rfl) ?_
  refine core_m (A1 := fun q => ow q = 0 ∨ ow q = 22) (grV (n := 4) (As := [.ref (cm cd), .int a, .int b, .int c1]) (rest := []) h0 hF (m_X9_carryOut h0 (cm := cm) (o := o) (σ := (sbNote σ)) (ow := ow) (f := f) (g := g) hC hO cd hcd a b c1) wm_X9_340 wo_X9_carryOut ws_X9__X9_carryOut wz_X9 wc_X9_carryOut ⟨by decide, by decide, by decide +kernel⟩ rfl ⟨Nat.le_of_ble_eq_true rfl, Nat.le_of_ble_eq_true rfl⟩ (ci := 8) ⟨_, hob.1 0 _ rfl⟩ rfl hsb hS hAo ⟨Nat.le_of_ble_eq_true rfl, Nat.le_of_ble_eq_true rfl⟩ hl.1 rfl (Nat.le_of_ble_eq_true rfl) dX9_change_17) hS (fun q (h8 : ow q = 0 ∨ ow q = 22) => (show X.z ≤ q from by have := h8; first | exact this | exact hz q (by omega))) (fun v H locs hq hz1 hk1 hS => ?_)
  obtain ⟨rfl, hsb⟩ := hq
  have hob := hsb.2.1
  have hpa := hsb.2.2.2.1
  have hz := hsb.1
  refine lv_istore (lv' := [(5, .int ((oCmd σ.1 σ.2.2.2.2.1 cd a b c1).1)), (0, .ref o), (1, .ref (cm cd)), (2, .int a), (3, .int b), (4, .int c1)]) hx hb dX9_change_20 hl (by decide) rfl (fun ls hl => ?_)
  refine lv_iload hx hb dX9_change_22 (lv_at hl 0 rfl) ?_
  refine lv_if_lt (tgt := 34) hx hb dX9_change_24 (by decide) (fun c_24 => ?_) (fun c_24 => ?_)
  · have n_24 := Int32.not_le.mpr c_24
    have hfin : SBH X cm o (sbChg σ (oCmd σ.1 σ.2.2.2.2.1 cd a b c1)) H := ⟨ow, f, g, by rw [sbChg, if_pos c_24]; exact hsb⟩
    refine lv_iload hx hb dX9_change_34 (lv_at hl 0 rfl) ?_
    exact mm_iret hF hS dX9_change_36 (⟨rfl, hfin⟩)
  · have n_24 := Int32.not_lt.mp c_24
    refine lv_aload_n hx hb dX9_change_27 rfl (lv_at hl 1 rfl) ?_
    refine g_get (ci := 8) (v := .ref (g 0)) h0 hF inX9 hob.1 0 rfl rfl 2 (by decide) wf_X9_22 rfl rfl dX9_change_28 ?_
    refine core_m (A1 := fun q => ow q = 21) (grV (n := 0) (As := []) (rest := []) h0 hF (m_X2_keepNoted h0 (σ := (sbOp (sbNote σ) (oCmd σ.1 σ.2.2.2.2.1 cd a b c1))) (ow := ow) (f := f) (g := g) hP) wm_X9_343 wo_X2_keepNoted ws_X2__X2_keepNoted wz_X2 wc_X2_keepNoted ⟨by decide, by decide, by decide +kernel⟩ rfl ⟨Nat.le_of_ble_eq_true rfl, Nat.le_of_ble_eq_true rfl⟩ (ci := 1) ⟨_, hpa.1 0 _ rfl⟩ rfl hpa hS hAo ⟨Nat.le_of_ble_eq_true rfl, Nat.le_of_ble_eq_true rfl⟩ hl.1 rfl (Nat.le_of_ble_eq_true rfl) dX9_change_31) hS (fun q (h8 : ow q = 21) => (show X.z ≤ q from by have := h8; first | exact this | exact hz q (by omega))) (fun v H locs hq hz1 hk1 hS => ?_)
    obtain ⟨rfl, hpa⟩ := hq
    have hfin : SBH X cm o (sbChg σ (oCmd σ.1 σ.2.2.2.2.1 cd a b c1)) H := ⟨ow, f, g, by rw [sbChg, if_neg c_24]; exact hsb.pa hk1 hpa rfl rfl rfl rfl rfl rfl⟩
    refine lv_iload hx hb dX9_change_34 (lv_at hl 0 rfl) ?_
    exact mm_iret hF hS dX9_change_36 (⟨rfl, hfin⟩)
