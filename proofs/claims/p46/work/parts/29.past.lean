set_option maxHeartbeats 4000000 in
set_option maxRecDepth 100000 in
theorem m_X2_note {X : Cx} {l : Launch} (h0 : Init X) {cm : Nat → Nat} {o : Nat} {σ : Sb} {ow : Nat → Nat} {f : Nat → Nat → Nat} {g : Nat → Nat} (hP : Okp σ)  : MM X l yX2_note cX2_note 2 none 4 123 0 0 [.ref (g 0), .ref (f 0 0)] (SBP X cm o σ ow f g) (fun v H => v = none ∧ SBP X cm o (sbNote σ) ow f g H) (gA X) := by
  refine Met.mk (Bh := (SBP X cm o σ ow f g)) (by decide) (Nat.le_of_ble_eq_true rfl) ?_
  intro p e s m below meth c ls hF hB hl
  have hsb := hB
  obtain ⟨hz, hob, hsk, hpa, hre, ⟨cw, ew, nu, hcw, hwo⟩, hin, ⟨ln, lc, hln, hli⟩, hi60⟩ := id hsb
  have hs0 : Tw X ow 0 (skW X (f 0) σ.1) s.heap := hsk 0 (by decide)
  have hP1 := hP.1
  have hP2 := hP.2
  have hsn : Tw X ow (2 + (σ.2.2.2.1 1)) (skW X (f (2 + (σ.2.2.2.1 1))) (σ.2.2.1 (σ.2.2.2.1 1))) s.heap := by have := hsk (2 + σ.2.2.2.1 1) (by omega); rw [Nat.add_comm 2 (σ.2.2.2.1 1)] at this ⊢; exact this
  have hl : lv_has ls 2 [(0, .ref (g 0)), (1, .ref (f 0 0))] := hl
  obtain ⟨hx, hb, hml, hr, hlk, hown, hG⟩ := id hF
  have hK := hG.K h0
  have hS : va_S (gA X) s.heap s.heap [] := va_S.rf
  have hAo : ∀ q, q < X.z → ¬ gA X q := fun q h9 (h8 : X.z ≤ q) => absurd h8 (by omega)
  refine lv_aload_n hx hb dX2_note_0 rfl (lv_at hl 0 rfl) ?_
  refine g_get (ci := 1) (v := .ref (g 5)) h0 hF inX2 hpa.1 0 rfl rfl 2 (by decide) wf_X2_11 rfl rfl dX2_note_1 ?_
  refine lv_aload_n hx hb dX2_note_4 rfl (lv_at hl 0 rfl) ?_
  refine g_get (ci := 1) (v := .int (nI (σ.2.2.2.1 1))) h0 hF inX2 hpa.1 0 rfl rfl 1 (by decide) wf_X2_18 rfl rfl dX2_note_5 ?_
  refine g_aald hx hb hK hpa.1 1 2 rfl rfl (σ.2.2.2.1 1) (rfl) (by omega) (by decide) dX2_note_8 ?_
  refine lv_aload_n hx hb dX2_note_9 rfl (lv_at hl 1 rfl) ?_
  refine core_m (A1 := fun q => ow q = (2 + (σ.2.2.2.1 1)) ∨ ow q = 0) (grV (Bh := (fun H => Tw X ow (2 + (σ.2.2.2.1 1)) (skW X (f (2 + (σ.2.2.2.1 1))) (σ.2.2.1 (σ.2.2.2.1 1))) H ∧ Tw X ow 0 (skW X (f 0) σ.1) H)) (n := 1) (As := [.ref (f 0 0)]) (rest := []) h0 hF (m_X5_copyFrom h0 (ow := ow) (t := (2 + (σ.2.2.2.1 1))) (u := 0) (f := (f (2 + (σ.2.2.2.1 1)))) (g := (f 0)) (k := (σ.2.2.1 (σ.2.2.2.1 1))) (q := σ.1) (by omega) (fun q h9 => hz q (by omega))) wm_X2_22 wo_X5_copyFrom ws_X5__X5_copyFrom wz_X5 wc_X5_copyFrom ⟨by decide, by decide, by decide +kernel⟩ rfl ⟨Nat.le_of_ble_eq_true rfl, Nat.le_of_ble_eq_true rfl⟩ (ci := 4) ⟨_, hsn.1 0 _ rfl⟩ rfl ⟨hsn, hs0⟩ hS hAo ⟨Nat.le_of_ble_eq_true rfl, Nat.le_of_ble_eq_true rfl⟩ hl.1 rfl (Nat.le_of_ble_eq_true rfl) dX2_note_10) hS (fun q (h8 : ow q = (2 + (σ.2.2.2.1 1)) ∨ ow q = 0) => (show X.z ≤ q from hz q (by omega))) (fun v H locs hq hz1 hk1 hS => ?_)
  obtain ⟨rfl, hsn, hs0⟩ := hq
  have hpa := hpa.keep hk1 (fun q h9 (h8 : ow q = (2 + (σ.2.2.2.1 1)) ∨ ow q = 0) => by omega)
  have hsn : Tw X ow (2 + (σ.2.2.2.1 1)) (skW X (f (2 + (σ.2.2.2.1 1))) σ.1) H := hsn
  exact mm_vret hF hS dX2_note_13 (⟨rfl, by rw [← sbS_note]; exact hsb.sky (by omega) (by decide) hk1 hsn hs0⟩)

set_option maxHeartbeats 4000000 in
set_option maxRecDepth 100000 in
theorem m_X2_keepNoted {X : Cx} {l : Launch} (h0 : Init X) {σ : Sb} {ow : Nat → Nat} {f : Nat → Nat → Nat} {g : Nat → Nat} (hP : Okp σ)  : MM X l yX2_keepNoted cX2_keepNoted 1 none 1 14 0 0 [.ref (g 0)] (Tw X ow 21 (paW X f g σ)) (fun v H => v = none ∧ Tw X ow 21 (paW X f g (sbKeep σ)) H) (fun q => ow q = 21) := by
  refine Met.mk (Bh := (Tw X ow 21 (paW X f g σ))) (by decide) (Nat.le_of_ble_eq_true rfl) ?_
  intro p e s m below meth c ls hF hB hl
  have hpa := hB
  have hP1 := hP.1
  have hP2 := hP.2
  have hl : lv_has ls 1 [(0, .ref (g 0))] := hl
  obtain ⟨hx, hb, hml, hr, hlk, hown, hG⟩ := id hF
  have hK := hG.K h0
  have hS : va_S (fun q => ow q = 21) s.heap s.heap [] := va_S.rf
  refine lv_aload_n hx hb dX2_keepNoted_0 rfl (lv_at hl 0 rfl) ?_
  refine lv_aload_n hx hb dX2_keepNoted_1 rfl (lv_at hl 0 rfl) ?_
  refine g_get (ci := 1) (v := .int (nI (σ.2.2.2.1 1))) h0 hF inX2 hpa.1 0 rfl rfl 1 (by decide) wf_X2_18 rfl rfl dX2_keepNoted_2 ?_
  refine lv_iconst (v := 1) hx hb dX2_keepNoted_5 (by decide) ?_
  refine lv_iadd hx hb dX2_keepNoted_6 ?_
  refine lv_topE (y := nI (σ.2.2.2.1 1 + 1)) (nI_1 _) ?_
  refine lv_bipush (v := 9) hx hb dX2_keepNoted_7 (by decide) ?_
  refine lv_irem hx hb dX2_keepNoted_9 (by decide) ?_
  refine lv_topE (y := nI ((σ.2.2.2.1 1 + 1) % 9)) (pk_rem (d := 9) (by omega) (by decide) (by decide)) ?_
  have htg := hpa.tag 0 rfl
  refine g_put (ci := 1) h0 hF inX2 tyX2 tyX2_ok nmX2 hpa hS (htg) 0 rfl rfl 1 (by decide) wf_X2_18 rfl rfl (tyX2_ok 1 (by decide)) rfl rfl (Nat.le_of_ble_eq_true rfl) dX2_keepNoted_10 (fun H locs oq hpa' hS => ?_)
  have hpa : Tw X ow 21 (paW X f g (sbN σ 1 ((σ.2.2.2.1 1 + 1) % 9))) H := hpa'
  refine lv_aload_n hx hb dX2_keepNoted_13 rfl (lv_at hl 0 rfl) ?_
  refine lv_aload_n hx hb dX2_keepNoted_14 rfl (lv_at hl 0 rfl) ?_
  refine g_get (ci := 1) (v := .int (nI (σ.2.2.2.1 0))) h0 hF inX2 hpa.1 0 rfl rfl 0 (by decide) wf_X2_26 rfl rfl dX2_keepNoted_15 ?_
  refine lv_iconst (v := 1) hx hb dX2_keepNoted_18 (by decide) ?_
  refine lv_iadd hx hb dX2_keepNoted_19 ?_
  refine lv_topE (y := nI (σ.2.2.2.1 0 + 1)) (nI_1 _) ?_
  refine lv_bipush (v := 8) hx hb dX2_keepNoted_20 (by decide) ?_
  refine va_mmin hx hb (by rw [hl.1]; exact hml) hown (hG.hts h0 _ _ wm_X2_29) (hG.hts h0 _ _ wt_J9_min_7cf53) (hG.hts h0 _ _ wz_J9) (hG.hts h0 _ _ wc_J9_min_7cf53) (Nat.le_of_ble_eq_true rfl) (Nat.le_of_ble_eq_true rfl) (Nat.zero_le _) (Nat.zero_le _) dX2_keepNoted_22 ?_
  refine lv_topE (y := nI (if 8 < σ.2.2.2.1 0 + 1 then 8 else σ.2.2.2.1 0 + 1)) (min8 _ (by omega)) ?_
  have htg := hpa.tag 0 rfl
  refine g_put (ci := 1) h0 hF inX2 tyX2 tyX2_ok nmX2 hpa hS (htg) 0 rfl rfl 0 (by decide) wf_X2_26 rfl rfl (tyX2_ok 0 (by decide)) rfl rfl (Nat.le_of_ble_eq_true rfl) dX2_keepNoted_25 (fun H locs oq hpa' hS => ?_)
  have hpa : Tw X ow 21 (paW X f g (sbN (sbN σ 1 ((σ.2.2.2.1 1 + 1) % 9)) 0 (if 8 < σ.2.2.2.1 0 + 1 then 8 else σ.2.2.2.1 0 + 1))) H := hpa'
  exact mm_vret hF hS dX2_keepNoted_28 (⟨rfl, hpa⟩)

set_option maxHeartbeats 4000000 in
set_option maxRecDepth 100000 in
theorem m_X2_forget {X : Cx} {l : Launch} (h0 : Init X) {σ : Sb} {ow : Nat → Nat} {f : Nat → Nat → Nat} {g : Nat → Nat} (hP : Okp σ)  : MM X l yX2_forget cX2_forget 1 none 0 0 0 0 [.ref (g 0)] (Tw X ow 21 (paW X f g σ)) (fun v H => v = none ∧ Tw X ow 21 (paW X f g (sbN σ 0 0)) H) (fun q => ow q = 21) := by
  refine Met.mk (Bh := (Tw X ow 21 (paW X f g σ))) (by decide) (Nat.le_of_ble_eq_true rfl) ?_
  intro p e s m below meth c ls hF hB hl
  have hpa := hB
  have hP1 := hP.1
  have hP2 := hP.2
  have hl : lv_has ls 1 [(0, .ref (g 0))] := hl
  obtain ⟨hx, hb, hml, hr, hlk, hown, hG⟩ := id hF
  have hK := hG.K h0
  have hS : va_S (fun q => ow q = 21) s.heap s.heap [] := va_S.rf
  refine lv_aload_n hx hb dX2_forget_0 rfl (lv_at hl 0 rfl) ?_
  refine lv_iconst (v := 0) hx hb dX2_forget_1 (by decide) ?_
  refine lv_topE (y := nI 0) (rfl) ?_
  have htg := hpa.tag 0 rfl
  refine g_put (ci := 1) h0 hF inX2 tyX2 tyX2_ok nmX2 hpa hS (htg) 0 rfl rfl 0 (by decide) wf_X2_26 rfl rfl (tyX2_ok 0 (by decide)) rfl rfl (Nat.le_of_ble_eq_true rfl) dX2_forget_2 (fun H locs oq hpa' hS => ?_)
  have hpa : Tw X ow 21 (paW X f g (sbN σ 0 0)) H := hpa'
  exact mm_vret hF hS dX2_forget_5 (⟨rfl, hpa⟩)

set_option maxHeartbeats 4000000 in
set_option maxRecDepth 100000 in
theorem m_X2_takeBack {X : Cx} {l : Launch} (h0 : Init X) {σ : Sb} {ow : Nat → Nat} {f : Nat → Nat → Nat} {g : Nat → Nat} (hP : Okp σ) (hz : ∀ q, ow q < 100 → X.z ≤ q) (hc : 0 < σ.2.2.2.1 0) : MM X l yX2_takeBack cX2_takeBack 2 (some .int) 4 123 0 0 [.ref (g 0), .ref (f 0 0)] (fun H => Tw X ow 21 (paW X f g σ) H ∧ Tw X ow 0 (skW X (f 0) σ.1) H ∧ Tw X ow (2 + ((σ.2.2.2.1 1 + 9 - 1) % 9)) (skW X (f (2 + ((σ.2.2.2.1 1 + 9 - 1) % 9))) (σ.2.2.1 ((σ.2.2.2.1 1 + 9 - 1) % 9))) H) (fun v H => v = some (.int (nI (σ.2.2.2.1 0 - 1))) ∧ Tw X ow 21 (paW X f g (sbBack σ)) H ∧ Tw X ow 0 (skW X (f 0) (σ.2.2.1 ((σ.2.2.2.1 1 + 9 - 1) % 9))) H ∧ Tw X ow (2 + ((σ.2.2.2.1 1 + 9 - 1) % 9)) (skW X (f (2 + ((σ.2.2.2.1 1 + 9 - 1) % 9))) (σ.2.2.1 ((σ.2.2.2.1 1 + 9 - 1) % 9))) H) (fun q => ow q = 21 ∨ ow q = 0 ∨ ow q = 2 + ((σ.2.2.2.1 1 + 9 - 1) % 9)) := by
  refine Met.mk (Bh := (fun H => Tw X ow 21 (paW X f g σ) H ∧ Tw X ow 0 (skW X (f 0) σ.1) H ∧ Tw X ow (2 + ((σ.2.2.2.1 1 + 9 - 1) % 9)) (skW X (f (2 + ((σ.2.2.2.1 1 + 9 - 1) % 9))) (σ.2.2.1 ((σ.2.2.2.1 1 + 9 - 1) % 9))) H)) (by decide) (Nat.le_of_ble_eq_true rfl) ?_
  intro p e s m below meth c ls hF hB hl
  obtain ⟨hpa, hs0, hsn⟩ := hB
  have hN2 : ((σ.2.2.2.1 1 + 9 - 1) % 9) < 9 := Nat.mod_lt _ (by decide)
  have hP1 := hP.1
  have hP2 := hP.2
  have hl : lv_has ls 2 [(0, .ref (g 0)), (1, .ref (f 0 0))] := hl
  obtain ⟨hx, hb, hml, hr, hlk, hown, hG⟩ := id hF
  have hK := hG.K h0
  have hS : va_S (fun q => ow q = 21 ∨ ow q = 0 ∨ ow q = 2 + ((σ.2.2.2.1 1 + 9 - 1) % 9)) s.heap s.heap [] := va_S.rf
  have hAo : ∀ q, q < X.z → ¬ (fun q => ow q = 21 ∨ ow q = 0 ∨ ow q = 2 + ((σ.2.2.2.1 1 + 9 - 1) % 9)) q := fun q h9 (h8 : ow q = 21 ∨ ow q = 0 ∨ ow q = 2 + ((σ.2.2.2.1 1 + 9 - 1) % 9)) => absurd (hz q (by omega)) (by omega)
  refine lv_aload_n hx hb dX2_takeBack_0 rfl (lv_at hl 0 rfl) ?_
  refine g_get (ci := 1) (v := .int (nI (σ.2.2.2.1 0))) h0 hF inX2 hpa.1 0 rfl rfl 0 (by decide) wf_X2_26 rfl rfl dX2_takeBack_1 ?_
  refine lv_if_ne (tgt := 10) hx hb dX2_takeBack_4 (by decide) (fun c_4 => ?_) (fun c_4 => absurd c_4 (fun h => by have := (nI_eq (a := σ.2.2.2.1 0) (b := 0) (by omega) (by decide)).mp h; omega))
  refine lv_aload_n hx hb dX2_takeBack_10 rfl (lv_at hl 0 rfl) ?_
  refine lv_aload_n hx hb dX2_takeBack_11 rfl (lv_at hl 0 rfl) ?_
  refine g_get (ci := 1) (v := .int (nI (σ.2.2.2.1 1))) h0 hF inX2 hpa.1 0 rfl rfl 1 (by decide) wf_X2_18 rfl rfl dX2_takeBack_12 ?_
  refine lv_bipush (v := 9) hx hb dX2_takeBack_15 (by decide) ?_
  refine lv_iadd hx hb dX2_takeBack_17 ?_
  refine lv_topE (y := nI (σ.2.2.2.1 1 + 9)) (nI_add _ 9) ?_
  refine lv_iconst (v := 1) hx hb dX2_takeBack_18 (by decide) ?_
  refine lv_isub hx hb dX2_takeBack_19 ?_
  refine lv_topE (y := nI (σ.2.2.2.1 1 + 9 - 1)) (pk_sub (b := 1) (by omega)) ?_
  refine lv_bipush (v := 9) hx hb dX2_takeBack_20 (by decide) ?_
  refine lv_irem hx hb dX2_takeBack_22 (by decide) ?_
  refine lv_topE (y := nI ((σ.2.2.2.1 1 + 9 - 1) % 9)) (pk_rem (d := 9) (by omega) (by decide) (by decide)) ?_
  have htg := hpa.tag 0 rfl
  refine g_put (ci := 1) h0 hF inX2 tyX2 tyX2_ok nmX2 hpa hS (Or.inl htg) 0 rfl rfl 1 (by decide) wf_X2_18 rfl rfl (tyX2_ok 1 (by decide)) rfl rfl (Nat.le_of_ble_eq_true rfl) dX2_takeBack_23 (fun H locs oq hpa' hS => ?_)
  have hs0 := hs0.fr1 oq (by rw [htg]; omega)
  have hsn := hsn.fr1 oq (by rw [htg]; omega)
  have hpa : Tw X ow 21 (paW X f g (sbN σ 1 ((σ.2.2.2.1 1 + 9 - 1) % 9))) H := hpa'
  refine lv_aload_n hx hb dX2_takeBack_26 rfl (lv_at hl 0 rfl) ?_
  refine lv_dup hx hb dX2_takeBack_27 rfl ?_
  refine g_get (ci := 1) (v := .int (nI (σ.2.2.2.1 0))) h0 hF inX2 hpa.1 0 rfl rfl 0 (by decide) wf_X2_26 rfl rfl dX2_takeBack_28 ?_
  refine lv_iconst (v := 1) hx hb dX2_takeBack_31 (by decide) ?_
  refine lv_isub hx hb dX2_takeBack_32 ?_
  refine lv_topE (y := nI (σ.2.2.2.1 0 - 1)) (pk_sub (b := 1) (by omega)) ?_
  have htg := hpa.tag 0 rfl
  refine g_put (ci := 1) h0 hF inX2 tyX2 tyX2_ok nmX2 hpa hS (Or.inl htg) 0 rfl rfl 0 (by decide) wf_X2_26 rfl rfl (tyX2_ok 0 (by decide)) rfl rfl (Nat.le_of_ble_eq_true rfl) dX2_takeBack_33 (fun H locs oq hpa' hS => ?_)
  have hs0 := hs0.fr1 oq (by rw [htg]; omega)
  have hsn := hsn.fr1 oq (by rw [htg]; omega)
  have hpa : Tw X ow 21 (paW X f g (sbN (sbN σ 1 ((σ.2.2.2.1 1 + 9 - 1) % 9)) 0 (σ.2.2.2.1 0 - 1))) H := hpa'
  refine lv_aload_n hx hb dX2_takeBack_36 rfl (lv_at hl 1 rfl) ?_
  refine lv_aload_n hx hb dX2_takeBack_37 rfl (lv_at hl 0 rfl) ?_
  refine g_get (ci := 1) (v := .ref (g 5)) h0 hF inX2 hpa.1 0 rfl rfl 2 (by decide) wf_X2_11 rfl rfl dX2_takeBack_38 ?_
  refine lv_aload_n hx hb dX2_takeBack_41 rfl (lv_at hl 0 rfl) ?_
  refine g_get (ci := 1) (v := .int (nI ((σ.2.2.2.1 1 + 9 - 1) % 9))) h0 hF inX2 hpa.1 0 rfl rfl 1 (by decide) wf_X2_18 rfl rfl dX2_takeBack_42 ?_
  refine g_aald hx hb hK hpa.1 1 2 rfl rfl ((σ.2.2.2.1 1 + 9 - 1) % 9) (rfl) (by omega) (by decide) dX2_takeBack_45 ?_
  refine core_m (A1 := fun q => ow q = 0 ∨ ow q = (2 + ((σ.2.2.2.1 1 + 9 - 1) % 9))) (grV (Bh := (fun H => Tw X ow 0 (skW X (f 0) σ.1) H ∧ Tw X ow (2 + ((σ.2.2.2.1 1 + 9 - 1) % 9)) (skW X (f (2 + ((σ.2.2.2.1 1 + 9 - 1) % 9))) (σ.2.2.1 ((σ.2.2.2.1 1 + 9 - 1) % 9))) H)) (n := 1) (As := [.ref (f (2 + ((σ.2.2.2.1 1 + 9 - 1) % 9)) 0)]) (rest := []) h0 hF (m_X5_copyFrom h0 (ow := ow) (t := 0) (u := (2 + ((σ.2.2.2.1 1 + 9 - 1) % 9))) (f := (f 0)) (g := (f (2 + ((σ.2.2.2.1 1 + 9 - 1) % 9)))) (k := σ.1) (q := (σ.2.2.1 ((σ.2.2.2.1 1 + 9 - 1) % 9))) (by omega) (fun q h9 => hz q (by omega))) wm_X2_22 wo_X5_copyFrom ws_X5__X5_copyFrom wz_X5 wc_X5_copyFrom ⟨by decide, by decide, by decide +kernel⟩ rfl ⟨Nat.le_of_ble_eq_true rfl, Nat.le_of_ble_eq_true rfl⟩ (ci := 4) ⟨_, hs0.1 0 _ rfl⟩ rfl ⟨hs0, hsn⟩ hS hAo ⟨Nat.le_of_ble_eq_true rfl, Nat.le_of_ble_eq_true rfl⟩ hl.1 rfl (Nat.le_of_ble_eq_true rfl) dX2_takeBack_46) hS (fun q (h8 : ow q = 0 ∨ ow q = (2 + ((σ.2.2.2.1 1 + 9 - 1) % 9))) => (show ow q = 21 ∨ ow q = 0 ∨ ow q = 2 + ((σ.2.2.2.1 1 + 9 - 1) % 9) from by omega)) (fun v H locs hq hz1 hk1 hS => ?_)
  obtain ⟨rfl, hs0, hsn⟩ := hq
  have hpa := hpa.keep hk1 (fun q h9 (h8 : ow q = 0 ∨ ow q = (2 + ((σ.2.2.2.1 1 + 9 - 1) % 9))) => by omega)
  have hs0 : Tw X ow 0 (skW X (f 0) (σ.2.2.1 ((σ.2.2.2.1 1 + 9 - 1) % 9))) H := hs0
  refine lv_aload_n hx hb dX2_takeBack_49 rfl (lv_at hl 0 rfl) ?_
  refine g_get (ci := 1) (v := .int (nI (σ.2.2.2.1 0 - 1))) h0 hF inX2 hpa.1 0 rfl rfl 0 (by decide) wf_X2_26 rfl rfl dX2_takeBack_50 ?_
  exact mm_iret hF hS dX2_takeBack_53 (⟨rfl, hpa, hs0, hsn⟩)
