set_option maxHeartbeats 4000000 in
set_option maxRecDepth 100000 in
theorem m_X5_addStar {X : Cx} {l : Launch} (h0 : Init X) {ow : Nat → Nat} {t u a : Nat} {f : Nat → Nat} {k : Sk} {E : Nat → Int32} (hO : Ok k) (htu : t ≠ u) (hz : ∀ q, ow q = t ∨ ow q = u → X.z ≤ q) (b g : Int32) : MM X l yX5_addStar cX5_addStar 4 (some .int) 2 42 0 0 [.ref (f 0), .int b, .int g, .ref a] (fun H => Tw X ow t (skW X f k) H ∧ Tw X ow u (reW a E) H) (fun v H => v = some (.int (oStar k E b g).1) ∧ Tw X ow t (skW X f (oStar k E b g).2.1) H ∧ Tw X ow u (reW a (oStar k E b g).2.2) H) (fun q => ow q = t ∨ ow q = u) := by
  refine Met.mk (Bh := (fun H => Tw X ow t (skW X f k) H ∧ Tw X ow u (reW a E) H)) (by decide) (Nat.le_of_ble_eq_true rfl) ?_
  intro p e s m below meth c ls hF hB hl
  obtain ⟨hT, hR⟩ := hB
  have hl : lv_has ls 4 [(0, .ref (f 0)), (1, .int b), (2, .int g), (3, .ref a)] := hl
  obtain ⟨hx, hb, hml, hr, hlk, hown, hG⟩ := id hF
  have hK := hG.K h0
  have hS : va_S (fun q => ow q = t ∨ ow q = u) s.heap s.heap [] := va_S.rf
  have hO1 := hO.1
  have hO2 := hO.2.1
  have hO3 := hO.2.2.1
  have hAo : ∀ q, q < X.z → ¬ (fun q => ow q = t ∨ ow q = u) q := fun q h9 (h8 : ow q = t ∨ ow q = u) => absurd (hz q h8) (by omega)
  refine lv_iload_n hx hb dX5_addStar_0 rfl (lv_at hl 2 rfl) ?_
  refine core_p (v := .int (bI (winB g 0 3))) (grSN (n := 1) (As := [.int g]) (rest := []) h0 hF (m_X9_isSector h0 g) wmn_X5_59 wt_X9_isSector wz_X9 wc_X9_isSector ⟨by decide, by decide, by decide +kernel⟩ rfl ⟨Nat.le_of_ble_eq_true rfl, Nat.le_of_ble_eq_true rfl⟩ trivial hS hAo ⟨Nat.le_of_ble_eq_true rfl, Nat.le_of_ble_eq_true rfl⟩ hl.1 rfl (Nat.le_of_ble_eq_true rfl) dX5_addStar_1) ?_
  refine lv_if_ne (tgt := 9) hx hb dX5_addStar_4 (by decide) (fun c_4 => ?_) (fun c_4 => ?_)
  · have n_4 := bI_n0.mp c_4
    refine lv_iload_n hx hb dX5_addStar_9 rfl (lv_at hl 1 rfl) ?_
    refine lv_iconst (v := 1) hx hb dX5_addStar_10 (by decide) ?_
    refine lv_bipush (v := 9) hx hb dX5_addStar_11 (by decide) ?_
    refine core_p (v := .int (bI (winB b 1 9))) (grSN (n := 3) (As := [.int b, .int 1, .int 9]) (rest := []) h0 hF (m_X9_isWithin h0 b 1 9) wmn_X5_62 wt_X9_isWithin wz_X9 wc_X9_isWithin ⟨by decide, by decide, by decide +kernel⟩ rfl ⟨Nat.le_of_ble_eq_true rfl, Nat.le_of_ble_eq_true rfl⟩ trivial hS hAo ⟨Nat.le_of_ble_eq_true rfl, Nat.le_of_ble_eq_true rfl⟩ hl.1 rfl (Nat.le_of_ble_eq_true rfl) dX5_addStar_13) ?_
    refine lv_if_ne (tgt := 22) hx hb dX5_addStar_16 (by decide) (fun c_16 => ?_) (fun c_16 => ?_)
    · have n_16 := bI_n0.mp c_16
      refine lv_aload_n hx hb dX5_addStar_22 rfl (lv_at hl 0 rfl) ?_
      refine g_get (ci := 4) (v := .ref (f 1)) h0 hF inX5 hT.1 0 rfl rfl 0 (by decide) wf_X5_12 rfl rfl dX5_addStar_23 ?_
      refine g_get (ci := 5) (v := .int (nI (k.2 0))) h0 hF inX6 hT.1 1 rfl rfl 0 (by decide) wf_X5_66 rfl rfl dX5_addStar_26 ?_
      refine lv_bipush (v := 8) hx hb dX5_addStar_29 (by decide) ?_
      refine lv_icmp_lt (tgt := 42) hx hb dX5_addStar_31 (by decide) (fun c_31 => ?_) (fun c_31 => ?_)
      · have n_31 := Int32.not_le.mpr c_31
        refine lv_aload_n hx hb dX5_addStar_42 rfl (lv_at hl 0 rfl) ?_
        refine g_get (ci := 4) (v := .ref (f 1)) h0 hF inX5 hT.1 0 rfl rfl 0 (by decide) wf_X5_12 rfl rfl dX5_addStar_43 ?_
        refine lv_iload_n hx hb dX5_addStar_46 rfl (lv_at hl 1 rfl) ?_
        refine lv_iload_n hx hb dX5_addStar_47 rfl (lv_at hl 2 rfl) ?_
        refine core_m (A1 := fun q => ow q = t) (grV (n := 2) (As := [.int b, .int g]) (rest := []) h0 hF (m_X6_add h0 (ow := ow) (t := t) (f := f) (k := k) hO (fun q h9 => hz q (by omega)) (by have h7 := c_31; rw [Int32.lt_iff_toInt_lt, nI_toInt (by omega)] at h7; have e7 : (8 : Int32).toInt = 8 := (by decide); omega) b g) wm_X5_75 wo_X6_add ws_X6__X6_add wz_X6 wc_X6_add ⟨by decide, by decide, by decide +kernel⟩ rfl ⟨Nat.le_of_ble_eq_true rfl, Nat.le_of_ble_eq_true rfl⟩ (ci := 5) ⟨_, hT.1 1 _ rfl⟩ rfl hT hS hAo ⟨Nat.le_of_ble_eq_true rfl, Nat.le_of_ble_eq_true rfl⟩ hl.1 rfl (Nat.le_of_ble_eq_true rfl) dX5_addStar_48) hS (fun q (h8 : ow q = t) => (show ow q = t ∨ ow q = u from by omega)) (fun v H locs hq hz1 hk1 hS => ?_)
        obtain ⟨rfl, hT⟩ := hq
        have hT : Tw X ow t (skW X f (addS k b g)) H := hT
        have hR := hR.keep hk1 (fun q h9 (h8 : ow q = t) => by omega)
        exact mm_iret hF hS dX5_addStar_51 (by have e9 : oStar k E b g = ((nI (k.2 0) : Int32), addS k b g, E) := (by first | (simp only [oStar, n_4, n_16, c_31, n_31, if_true, if_false, Bool.false_eq_true, reduceIte]; done) | (simp only [oStar, n_4, n_16, c_31, n_31, if_true, if_false, Bool.false_eq_true, reduceIte]; rfl)); exact ⟨by rw [e9], by rw [e9]; exact hT, by rw [e9]; exact hR⟩)
      · have n_31 := Int32.not_lt.mp c_31
        refine lv_aload_n hx hb dX5_addStar_34 rfl (lv_at hl 3 rfl) ?_
        refine lv_iconst (v := 1) hx hb dX5_addStar_35 (by decide) ?_
        refine lv_bipush (v := 8) hx hb dX5_addStar_36 (by decide) ?_
        refine core_m (A1 := fun q => ow q = u) (grV (n := 2) (As := [.int 1, .int 8]) (rest := []) h0 hF (m_X3_because h0 (ow := ow) (u := u) (a := a) (E := E) 1 8) wm_X5_69 wo_X3_because ws_X3__X3_because wz_X3 wc_X3_because ⟨by decide, by decide, by decide +kernel⟩ rfl ⟨Nat.le_of_ble_eq_true rfl, Nat.le_of_ble_eq_true rfl⟩ (ci := 2) ⟨_, hR.1 0 _ rfl⟩ rfl hR hS hAo ⟨Nat.le_of_ble_eq_true rfl, Nat.le_of_ble_eq_true rfl⟩ hl.1 rfl (Nat.le_of_ble_eq_true rfl) dX5_addStar_38) hS (fun q (h8 : ow q = u) => (show ow q = t ∨ ow q = u from by omega)) (fun v H locs hq hz1 hk1 hS => ?_)
        obtain ⟨rfl, hR⟩ := hq
        have hT := hT.keep hk1 (fun q h9 (h8 : ow q = u) => by omega)
        have hR : Tw X ow u (reW a (rfN 1 8)) H := hR
        exact mm_iret hF hS dX5_addStar_41 (by have e9 : oStar k E b g = (((-3) : Int32), k, rfN 1 8) := (by first | (simp only [oStar, n_4, n_16, c_31, n_31, if_true, if_false, Bool.false_eq_true, reduceIte]; done) | (simp only [oStar, n_4, n_16, c_31, n_31, if_true, if_false, Bool.false_eq_true, reduceIte]; rfl)); exact ⟨by rw [e9], by rw [e9]; exact hT, by rw [e9]; exact hR⟩)
    · have n_16 := bI_0.mp c_16
      refine lv_bipush (v := (-2)) hx hb dX5_addStar_19 (by decide) ?_
      exact mm_iret hF hS dX5_addStar_21 (by have e9 : oStar k E b g = (((-2) : Int32), k, E) := (by first | (simp only [oStar, n_4, n_16, if_true, if_false, Bool.false_eq_true, reduceIte]; done) | (simp only [oStar, n_4, n_16, if_true, if_false, Bool.false_eq_true, reduceIte]; rfl)); exact ⟨by rw [e9], by rw [e9]; exact hT, by rw [e9]; exact hR⟩)
  · have n_4 := bI_0.mp c_4
    refine lv_iconst (v := (-1)) hx hb dX5_addStar_7 (by decide) ?_
    exact mm_iret hF hS dX5_addStar_8 (by have e9 : oStar k E b g = (((-1) : Int32), k, E) := (by first | (simp only [oStar, n_4, if_true, if_false, Bool.false_eq_true, reduceIte]; done) | (simp only [oStar, n_4, if_true, if_false, Bool.false_eq_true, reduceIte]; rfl)); exact ⟨by rw [e9], by rw [e9]; exact hT, by rw [e9]; exact hR⟩)

set_option maxHeartbeats 4000000 in
set_option maxRecDepth 100000 in
theorem m_X5_addRoof {X : Cx} {l : Launch} (h0 : Init X) {ow : Nat → Nat} {t u a : Nat} {f : Nat → Nat} {k : Sk} {E : Nat → Int32} (hO : Ok k) (htu : t ≠ u) (hz : ∀ q, ow q = t ∨ ow q = u → X.z ≤ q) (c1 : Int32) : MM X l yX5_addRoof cX5_addRoof 3 (some .int) 1 22 0 0 [.ref (f 0), .int c1, .ref a] (fun H => Tw X ow t (skW X f k) H ∧ Tw X ow u (reW a E) H) (fun v H => v = some (.int (oRoof k E c1).1) ∧ Tw X ow t (skW X f (oRoof k E c1).2.1) H ∧ Tw X ow u (reW a (oRoof k E c1).2.2) H) (fun q => ow q = t ∨ ow q = u) := by
  refine Met.mk (Bh := (fun H => Tw X ow t (skW X f k) H ∧ Tw X ow u (reW a E) H)) (by decide) (Nat.le_of_ble_eq_true rfl) ?_
  intro p e s m below meth c ls hF hB hl
  obtain ⟨hT, hR⟩ := hB
  have hl : lv_has ls 3 [(0, .ref (f 0)), (1, .int c1), (2, .ref a)] := hl
  obtain ⟨hx, hb, hml, hr, hlk, hown, hG⟩ := id hF
  have hK := hG.K h0
  have hS : va_S (fun q => ow q = t ∨ ow q = u) s.heap s.heap [] := va_S.rf
  have hO1 := hO.1
  have hO2 := hO.2.1
  have hO3 := hO.2.2.1
  have hAo : ∀ q, q < X.z → ¬ (fun q => ow q = t ∨ ow q = u) q := fun q h9 (h8 : ow q = t ∨ ow q = u) => absurd (hz q h8) (by omega)
  refine lv_iload_n hx hb dX5_addRoof_0 rfl (lv_at hl 1 rfl) ?_
  refine lv_iconst (v := 0) hx hb dX5_addRoof_1 (by decide) ?_
  refine lv_bipush (v := 99) hx hb dX5_addRoof_2 (by decide) ?_
  refine core_p (v := .int (bI (winB c1 0 99))) (grSN (n := 3) (As := [.int c1, .int 0, .int 99]) (rest := []) h0 hF (m_X9_isWithin h0 c1 0 99) wmn_X5_62 wt_X9_isWithin wz_X9 wc_X9_isWithin ⟨by decide, by decide, by decide +kernel⟩ rfl ⟨Nat.le_of_ble_eq_true rfl, Nat.le_of_ble_eq_true rfl⟩ trivial hS hAo ⟨Nat.le_of_ble_eq_true rfl, Nat.le_of_ble_eq_true rfl⟩ hl.1 rfl (Nat.le_of_ble_eq_true rfl) dX5_addRoof_4) ?_
  refine lv_if_ne (tgt := 13) hx hb dX5_addRoof_7 (by decide) (fun c_7 => ?_) (fun c_7 => ?_)
  · have n_7 := bI_n0.mp c_7
    refine lv_aload_n hx hb dX5_addRoof_13 rfl (lv_at hl 0 rfl) ?_
    refine g_get (ci := 4) (v := .ref (f 2)) h0 hF inX5 hT.1 0 rfl rfl 1 (by decide) wf_X5_21 rfl rfl dX5_addRoof_14 ?_
    refine g_get (ci := 3) (v := .int (nI (k.2 1))) h0 hF inX4 hT.1 2 rfl rfl 0 (by decide) wf_X5_78 rfl rfl dX5_addRoof_17 ?_
    refine lv_iconst (v := 5) hx hb dX5_addRoof_20 (by decide) ?_
    refine lv_icmp_lt (tgt := 31) hx hb dX5_addRoof_21 (by decide) (fun c_21 => ?_) (fun c_21 => ?_)
    · have n_21 := Int32.not_le.mpr c_21
      refine lv_aload_n hx hb dX5_addRoof_31 rfl (lv_at hl 0 rfl) ?_
      refine g_get (ci := 4) (v := .ref (f 2)) h0 hF inX5 hT.1 0 rfl rfl 1 (by decide) wf_X5_21 rfl rfl dX5_addRoof_32 ?_
      refine lv_iload_n hx hb dX5_addRoof_35 rfl (lv_at hl 1 rfl) ?_
      refine core_m (A1 := fun q => ow q = t) (grV (n := 1) (As := [.int c1]) (rest := []) h0 hF (m_X4_add h0 (ow := ow) (t := t) (f := f) (k := k) hO (fun q h9 => hz q (by omega)) (by have h7 := c_21; rw [Int32.lt_iff_toInt_lt, nI_toInt (by omega)] at h7; have e7 : (5 : Int32).toInt = 5 := (by decide); omega) c1) wm_X5_79 wo_X4_add ws_X4__X4_add wz_X4 wc_X4_add ⟨by decide, by decide, by decide +kernel⟩ rfl ⟨Nat.le_of_ble_eq_true rfl, Nat.le_of_ble_eq_true rfl⟩ (ci := 3) ⟨_, hT.1 2 _ rfl⟩ rfl hT hS hAo ⟨Nat.le_of_ble_eq_true rfl, Nat.le_of_ble_eq_true rfl⟩ hl.1 rfl (Nat.le_of_ble_eq_true rfl) dX5_addRoof_36) hS (fun q (h8 : ow q = t) => (show ow q = t ∨ ow q = u from by omega)) (fun v H locs hq hz1 hk1 hS => ?_)
      obtain ⟨rfl, hT⟩ := hq
      have hT : Tw X ow t (skW X f (addR k c1)) H := hT
      have hR := hR.keep hk1 (fun q h9 (h8 : ow q = t) => by omega)
      exact mm_iret hF hS dX5_addRoof_39 (by have e9 : oRoof k E c1 = ((nI (k.2 1) : Int32), addR k c1, E) := (by first | (simp only [oRoof, n_7, c_21, n_21, if_true, if_false, Bool.false_eq_true, reduceIte]; done) | (simp only [oRoof, n_7, c_21, n_21, if_true, if_false, Bool.false_eq_true, reduceIte]; rfl)); exact ⟨by rw [e9], by rw [e9]; exact hT, by rw [e9]; exact hR⟩)
    · have n_21 := Int32.not_lt.mp c_21
      refine lv_aload_n hx hb dX5_addRoof_24 rfl (lv_at hl 2 rfl) ?_
      refine lv_iconst (v := 1) hx hb dX5_addRoof_25 (by decide) ?_
      refine lv_iconst (v := 5) hx hb dX5_addRoof_26 (by decide) ?_
      refine core_m (A1 := fun q => ow q = u) (grV (n := 2) (As := [.int 1, .int 5]) (rest := []) h0 hF (m_X3_because h0 (ow := ow) (u := u) (a := a) (E := E) 1 5) wm_X5_69 wo_X3_because ws_X3__X3_because wz_X3 wc_X3_because ⟨by decide, by decide, by decide +kernel⟩ rfl ⟨Nat.le_of_ble_eq_true rfl, Nat.le_of_ble_eq_true rfl⟩ (ci := 2) ⟨_, hR.1 0 _ rfl⟩ rfl hR hS hAo ⟨Nat.le_of_ble_eq_true rfl, Nat.le_of_ble_eq_true rfl⟩ hl.1 rfl (Nat.le_of_ble_eq_true rfl) dX5_addRoof_27) hS (fun q (h8 : ow q = u) => (show ow q = t ∨ ow q = u from by omega)) (fun v H locs hq hz1 hk1 hS => ?_)
      obtain ⟨rfl, hR⟩ := hq
      have hT := hT.keep hk1 (fun q h9 (h8 : ow q = u) => by omega)
      have hR : Tw X ow u (reW a (rfN 1 5)) H := hR
      exact mm_iret hF hS dX5_addRoof_30 (by have e9 : oRoof k E c1 = (((-3) : Int32), k, rfN 1 5) := (by first | (simp only [oRoof, n_7, c_21, n_21, if_true, if_false, Bool.false_eq_true, reduceIte]; done) | (simp only [oRoof, n_7, c_21, n_21, if_true, if_false, Bool.false_eq_true, reduceIte]; rfl)); exact ⟨by rw [e9], by rw [e9]; exact hT, by rw [e9]; exact hR⟩)
  · have n_7 := bI_0.mp c_7
    refine lv_bipush (v := (-2)) hx hb dX5_addRoof_10 (by decide) ?_
    exact mm_iret hF hS dX5_addRoof_12 (by have e9 : oRoof k E c1 = (((-2) : Int32), k, E) := (by first | (simp only [oRoof, n_7, if_true, if_false, Bool.false_eq_true, reduceIte]; done) | (simp only [oRoof, n_7, if_true, if_false, Bool.false_eq_true, reduceIte]; rfl)); exact ⟨by rw [e9], by rw [e9]; exact hT, by rw [e9]; exact hR⟩)

set_option maxHeartbeats 4000000 in
set_option maxRecDepth 100000 in
theorem m_X5_tellCloud {X : Cx} {l : Launch} (h0 : Init X) {ow : Nat → Nat} {t u a : Nat} {f : Nat → Nat} {k : Sk} {E : Nat → Int32} (hO : Ok k) (htu : t ≠ u) (hz : ∀ q, ow q = t ∨ ow q = u → X.z ≤ q) (g c1 : Int32) : MM X l yX5_tellCloud cX5_tellCloud 5 (some .int) 2 42 0 0 [.ref (f 0), .int g, .int c1, .ref a] (fun H => Tw X ow t (skW X f k) H ∧ Tw X ow u (reW a E) H) (fun v H => v = some (.int (oCloud k E g c1).1) ∧ Tw X ow t (skW X f (oCloud k E g c1).2.1) H ∧ Tw X ow u (reW a (oCloud k E g c1).2.2) H) (fun q => ow q = t ∨ ow q = u) := by
  refine Met.mk (Bh := (fun H => Tw X ow t (skW X f k) H ∧ Tw X ow u (reW a E) H)) (by decide) (Nat.le_of_ble_eq_true rfl) ?_
  intro p e s m below meth c ls hF hB hl
  obtain ⟨hT, hR⟩ := hB
  have hl : lv_has ls 5 [(0, .ref (f 0)), (1, .int g), (2, .int c1), (3, .ref a)] := hl
  obtain ⟨hx, hb, hml, hr, hlk, hown, hG⟩ := id hF
  have hK := hG.K h0
  have hS : va_S (fun q => ow q = t ∨ ow q = u) s.heap s.heap [] := va_S.rf
  have hO1 := hO.1
  have hO2 := hO.2.1
  have hO3 := hO.2.2.1
  have hAo : ∀ q, q < X.z → ¬ (fun q => ow q = t ∨ ow q = u) q := fun q h9 (h8 : ow q = t ∨ ow q = u) => absurd (hz q h8) (by omega)
  refine lv_iload_n hx hb dX5_tellCloud_0 rfl (lv_at hl 1 rfl) ?_
  refine core_p (v := .int (bI (winB g 0 3))) (grSN (n := 1) (As := [.int g]) (rest := []) h0 hF (m_X9_isSector h0 g) wmn_X5_59 wt_X9_isSector wz_X9 wc_X9_isSector ⟨by decide, by decide, by decide +kernel⟩ rfl ⟨Nat.le_of_ble_eq_true rfl, Nat.le_of_ble_eq_true rfl⟩ trivial hS hAo ⟨Nat.le_of_ble_eq_true rfl, Nat.le_of_ble_eq_true rfl⟩ hl.1 rfl (Nat.le_of_ble_eq_true rfl) dX5_tellCloud_1) ?_
  refine lv_if_ne (tgt := 9) hx hb dX5_tellCloud_4 (by decide) (fun c_4 => ?_) (fun c_4 => ?_)
  · have n_4 := bI_n0.mp c_4
    have hg := winB_tn n_4
    have hg2 := hg.2
    refine lv_iload_n hx hb dX5_tellCloud_9 rfl (lv_at hl 2 rfl) ?_
    refine lv_iconst (v := 0) hx hb dX5_tellCloud_10 (by decide) ?_
    refine lv_bipush (v := 9) hx hb dX5_tellCloud_11 (by decide) ?_
    refine core_p (v := .int (bI (winB c1 0 9))) (grSN (n := 3) (As := [.int c1, .int 0, .int 9]) (rest := []) h0 hF (m_X9_isWithin h0 c1 0 9) wmn_X5_62 wt_X9_isWithin wz_X9 wc_X9_isWithin ⟨by decide, by decide, by decide +kernel⟩ rfl ⟨Nat.le_of_ble_eq_true rfl, Nat.le_of_ble_eq_true rfl⟩ trivial hS hAo ⟨Nat.le_of_ble_eq_true rfl, Nat.le_of_ble_eq_true rfl⟩ hl.1 rfl (Nat.le_of_ble_eq_true rfl) dX5_tellCloud_13) ?_
    refine lv_if_ne (tgt := 22) hx hb dX5_tellCloud_16 (by decide) (fun c_16 => ?_) (fun c_16 => ?_)
    · have n_16 := bI_n0.mp c_16
      refine lv_aload_n hx hb dX5_tellCloud_22 rfl (lv_at hl 0 rfl) ?_
      refine g_get (ci := 4) (v := .ref (f 1)) h0 hF inX5 hT.1 0 rfl rfl 0 (by decide) wf_X5_12 rfl rfl dX5_tellCloud_23 ?_
      refine g_get (ci := 5) (v := .ref (f 8)) h0 hF inX6 hT.1 1 rfl rfl 5 (by decide) wf_X5_82 rfl rfl dX5_tellCloud_26 ?_
      refine lv_iload_n hx hb dX5_tellCloud_29 rfl (lv_at hl 1 rfl) ?_
      refine g_iald hx hb hK hT.1 8 0 rfl rfl (tn g) (hg.1) (by omega) (by decide) dX5_tellCloud_30 ?_
      refine lv_istore (lv' := [(4, .int (k.1 4 (tn g))), (0, .ref (f 0)), (1, .int g), (2, .int c1), (3, .ref a)]) hx hb dX5_tellCloud_31 hl (by decide) rfl (fun ls hl => ?_)
      refine lv_iload hx hb dX5_tellCloud_33 (lv_at hl 0 rfl) ?_
      refine lv_iload_n hx hb dX5_tellCloud_35 rfl (lv_at hl 3 rfl) ?_
      refine lv_icmp_ne (tgt := 46) hx hb dX5_tellCloud_36 (by decide) (fun c_36 => ?_) (fun c_36 => ?_)
      · refine lv_aload_n hx hb dX5_tellCloud_46 rfl (lv_at hl 1 rfl) ?_
        refine g_get (ci := 4) (v := .ref (f 1)) h0 hF inX5 hT.1 0 rfl rfl 0 (by decide) wf_X5_12 rfl rfl dX5_tellCloud_47 ?_
        refine g_get (ci := 5) (v := .ref (f 8)) h0 hF inX6 hT.1 1 rfl rfl 5 (by decide) wf_X5_82 rfl rfl dX5_tellCloud_50 ?_
        refine lv_iload_n hx hb dX5_tellCloud_53 rfl (lv_at hl 2 rfl) ?_
        refine lv_iload_n hx hb dX5_tellCloud_54 rfl (lv_at hl 3 rfl) ?_
        have htg := hT.tag 8 rfl
        refine g_iast hx hb hK hT hS (Or.inl htg) 8 0 rfl rfl (tn g) (hg.1) (by omega) (by decide) dX5_tellCloud_55 (fun H locs oq hT' hS => ?_)
        have hR := hR.fr1 oq (by rw [htg]; omega)
        have hT : Tw X ow t (skW X f (sU k 4 (tn g) c1)) H := hT'.to (skS_4 X f k (tn g) c1)
        refine lv_iload hx hb dX5_tellCloud_56 (lv_at hl 0 rfl) ?_
        exact mm_iret hF hS dX5_tellCloud_58 (by have e9 : oCloud k E g c1 = ((k.1 4 (tn g) : Int32), sU k 4 (tn g) c1, E) := (by first | (simp only [oCloud, n_4, n_16, c_36, if_true, if_false, Bool.false_eq_true, reduceIte]; done) | (simp only [oCloud, n_4, n_16, c_36, if_true, if_false, Bool.false_eq_true, reduceIte]; rfl)); exact ⟨by rw [e9], by rw [e9]; exact hT, by rw [e9]; exact hR⟩)
      · refine lv_aload_n hx hb dX5_tellCloud_39 rfl (lv_at hl 4 rfl) ?_
        refine lv_iconst (v := 2) hx hb dX5_tellCloud_40 (by decide) ?_
        refine lv_iload_n hx hb dX5_tellCloud_41 rfl (lv_at hl 3 rfl) ?_
        refine core_m (A1 := fun q => ow q = u) (grV (n := 2) (As := [.int 2, .int c1]) (rest := []) h0 hF (m_X3_because h0 (ow := ow) (u := u) (a := a) (E := E) 2 c1) wm_X5_69 wo_X3_because ws_X3__X3_because wz_X3 wc_X3_because ⟨by decide, by decide, by decide +kernel⟩ rfl ⟨Nat.le_of_ble_eq_true rfl, Nat.le_of_ble_eq_true rfl⟩ (ci := 2) ⟨_, hR.1 0 _ rfl⟩ rfl hR hS hAo ⟨Nat.le_of_ble_eq_true rfl, Nat.le_of_ble_eq_true rfl⟩ hl.1 rfl (Nat.le_of_ble_eq_true rfl) dX5_tellCloud_42) hS (fun q (h8 : ow q = u) => (show ow q = t ∨ ow q = u from by omega)) (fun v H locs hq hz1 hk1 hS => ?_)
        obtain ⟨rfl, hR⟩ := hq
        have hT := hT.keep hk1 (fun q h9 (h8 : ow q = u) => by omega)
        have hR : Tw X ow u (reW a (rfN 2 c1)) H := hR
        exact mm_iret hF hS dX5_tellCloud_45 (by have e9 : oCloud k E g c1 = (((-3) : Int32), k, rfN 2 c1) := (by first | (simp only [oCloud, n_4, n_16, c_36, if_true, if_false, Bool.false_eq_true, reduceIte]; done) | (simp only [oCloud, n_4, n_16, c_36, if_true, if_false, Bool.false_eq_true, reduceIte]; rfl)); exact ⟨by rw [e9], by rw [e9]; exact hT, by rw [e9]; exact hR⟩)
    · have n_16 := bI_0.mp c_16
      refine lv_bipush (v := (-2)) hx hb dX5_tellCloud_19 (by decide) ?_
      exact mm_iret hF hS dX5_tellCloud_21 (by have e9 : oCloud k E g c1 = (((-2) : Int32), k, E) := (by first | (simp only [oCloud, n_4, n_16, if_true, if_false, Bool.false_eq_true, reduceIte]; done) | (simp only [oCloud, n_4, n_16, if_true, if_false, Bool.false_eq_true, reduceIte]; rfl)); exact ⟨by rw [e9], by rw [e9]; exact hT, by rw [e9]; exact hR⟩)
  · have n_4 := bI_0.mp c_4
    refine lv_iconst (v := (-1)) hx hb dX5_tellCloud_7 (by decide) ?_
    exact mm_iret hF hS dX5_tellCloud_8 (by have e9 : oCloud k E g c1 = (((-1) : Int32), k, E) := (by first | (simp only [oCloud, n_4, if_true, if_false, Bool.false_eq_true, reduceIte]; done) | (simp only [oCloud, n_4, if_true, if_false, Bool.false_eq_true, reduceIte]; rfl)); exact ⟨by rw [e9], by rw [e9]; exact hT, by rw [e9]; exact hR⟩)

set_option maxHeartbeats 4000000 in
set_option maxRecDepth 100000 in
theorem m_X5_sightStar {X : Cx} {l : Launch} (h0 : Init X) {ow : Nat → Nat} {t u a : Nat} {f : Nat → Nat} {k : Sk} {E : Nat → Int32} (hO : Ok k) (htu : t ≠ u) (hz : ∀ q, ow q = t ∨ ow q = u → X.z ≤ q) (r x : Int32) : MM X l yX5_sightStar cX5_sightStar 6 (some .int) 2 45 0 0 [.ref (f 0), .int r, .int x, .ref a] (fun H => Tw X ow t (skW X f k) H ∧ Tw X ow u (reW a E) H) (fun v H => v = some (.int (oSight k E r x).1) ∧ Tw X ow t (skW X f (oSight k E r x).2.1) H ∧ Tw X ow u (reW a (oSight k E r x).2.2) H) (fun q => ow q = t ∨ ow q = u) := by
  refine Met.mk (Bh := (fun H => Tw X ow t (skW X f k) H ∧ Tw X ow u (reW a E) H)) (by decide) (Nat.le_of_ble_eq_true rfl) ?_
  intro p e s m below meth c ls hF hB hl
  obtain ⟨hT, hR⟩ := hB
  have hl : lv_has ls 6 [(0, .ref (f 0)), (1, .int r), (2, .int x), (3, .ref a)] := hl
  obtain ⟨hx, hb, hml, hr, hlk, hown, hG⟩ := id hF
  have hK := hG.K h0
  have hS : va_S (fun q => ow q = t ∨ ow q = u) s.heap s.heap [] := va_S.rf
  have hO1 := hO.1
  have hO2 := hO.2.1
  have hO3 := hO.2.2.1
  have hAo : ∀ q, q < X.z → ¬ (fun q => ow q = t ∨ ow q = u) q := fun q h9 (h8 : ow q = t ∨ ow q = u) => absurd (hz q h8) (by omega)
  refine lv_aload_n hx hb dX5_sightStar_0 rfl (lv_at hl 0 rfl) ?_
  refine lv_iload_n hx hb dX5_sightStar_1 rfl (lv_at hl 1 rfl) ?_
  refine lv_iload_n hx hb dX5_sightStar_2 rfl (lv_at hl 2 rfl) ?_
  refine core_p (v := .int (bI (hasB (k.2 1) r && hasB (k.2 0) x))) (grV (n := 2) (As := [.int r, .int x]) (rest := []) h0 hF (m_X5_hasBoth h0 (f := f) (k := k) hO  r x) wm_X5_86 wo_X5_hasBoth ws_X5__X5_hasBoth wz_X5 wc_X5_hasBoth ⟨by decide, by decide, by decide +kernel⟩ rfl ⟨Nat.le_of_ble_eq_true rfl, Nat.le_of_ble_eq_true rfl⟩ (ci := 4) ⟨_, hT.1 0 _ rfl⟩ rfl hT.1 hS hAo ⟨Nat.le_of_ble_eq_true rfl, Nat.le_of_ble_eq_true rfl⟩ hl.1 rfl (Nat.le_of_ble_eq_true rfl) dX5_sightStar_3) ?_
  refine lv_if_ne (tgt := 11) hx hb dX5_sightStar_6 (by decide) (fun c_6 => ?_) (fun c_6 => ?_)
  · have n_6 := bI_n0.mp c_6
    have hr := hasB_tn (Bool.and_eq_true_iff.mp n_6).1 (by omega)
    have hr2 := hr.2
    have hxx := hasB_tn (Bool.and_eq_true_iff.mp n_6).2 (by omega)
    have hx2 := hxx.2
    refine lv_iconst (v := 1) hx hb dX5_sightStar_11 (by decide) ?_
    refine lv_iload_n hx hb dX5_sightStar_12 rfl (lv_at hl 2 rfl) ?_
    refine lv_ishl hx hb dX5_sightStar_13 ?_
    refine lv_istore (lv' := [(4, .int (1 <<< (x &&& 31))), (0, .ref (f 0)), (1, .int r), (2, .int x), (3, .ref a)]) hx hb dX5_sightStar_14 hl (by decide) rfl (fun ls hl => ?_)
    refine lv_aload_n hx hb dX5_sightStar_16 rfl (lv_at hl 1 rfl) ?_
    refine g_get (ci := 4) (v := .ref (f 2)) h0 hF inX5 hT.1 0 rfl rfl 1 (by decide) wf_X5_21 rfl rfl dX5_sightStar_17 ?_
    refine g_get (ci := 3) (v := .ref (f 16)) h0 hF inX4 hT.1 2 rfl rfl 8 (by decide) wf_X5_90 rfl rfl dX5_sightStar_20 ?_
    refine lv_iload_n hx hb dX5_sightStar_23 rfl (lv_at hl 2 rfl) ?_
    refine g_iald hx hb hK hT.1 16 0 rfl rfl (tn r) (hr.1) (by omega) (by decide) dX5_sightStar_24 ?_
    refine lv_iload hx hb dX5_sightStar_25 (lv_at hl 0 rfl) ?_
    refine lv_iand hx hb dX5_sightStar_27 ?_
    refine lv_if_eq (tgt := 49) hx hb dX5_sightStar_28 (by decide) (fun c_28 => ?_) (fun c_28 => ?_)
    · refine lv_aload_n hx hb dX5_sightStar_49 rfl (lv_at hl 1 rfl) ?_
      refine g_get (ci := 4) (v := .ref (f 2)) h0 hF inX5 hT.1 0 rfl rfl 1 (by decide) wf_X5_21 rfl rfl dX5_sightStar_50 ?_
      refine g_get (ci := 3) (v := .ref (f 16)) h0 hF inX4 hT.1 2 rfl rfl 8 (by decide) wf_X5_90 rfl rfl dX5_sightStar_53 ?_
      refine lv_iload_n hx hb dX5_sightStar_56 rfl (lv_at hl 2 rfl) ?_
      refine lv_dup2_11 hx hb dX5_sightStar_57 rfl rfl ?_
      refine g_iald hx hb hK hT.1 16 0 rfl rfl (tn r) (hr.1) (by omega) (by decide) dX5_sightStar_58 ?_
      refine lv_iload hx hb dX5_sightStar_59 (lv_at hl 0 rfl) ?_
      refine lv_ior hx hb dX5_sightStar_61 ?_
      have htg := hT.tag 16 rfl
      refine g_iast hx hb hK hT hS (Or.inl htg) 16 0 rfl rfl (tn r) (hr.1) (by omega) (by decide) dX5_sightStar_62 (fun H locs oq hT' hS => ?_)
      have hR := hR.fr1 oq (by rw [htg]; omega)
      have hT : Tw X ow t (skW X f (sU k 12 (tn r) ((k.1 12 (tn r)) ||| (1 <<< (x &&& 31))))) H := hT'.to (skS_12 X f k (tn r) ((k.1 12 (tn r)) ||| (1 <<< (x &&& 31))))
      refine lv_aload_n hx hb dX5_sightStar_63 rfl (lv_at hl 1 rfl) ?_
      refine g_get (ci := 4) (v := .ref (f 1)) h0 hF inX5 hT.1 0 rfl rfl 0 (by decide) wf_X5_12 rfl rfl dX5_sightStar_64 ?_
      refine g_get (ci := 5) (v := .ref (f 7)) h0 hF inX6 hT.1 1 rfl rfl 4 (by decide) wf_X5_98 rfl rfl dX5_sightStar_67 ?_
      refine lv_iload_n hx hb dX5_sightStar_70 rfl (lv_at hl 3 rfl) ?_
      refine lv_dup2_11 hx hb dX5_sightStar_71 rfl rfl ?_
      refine g_iald hx hb hK hT.1 7 0 rfl rfl (tn x) (hxx.1) (by omega) (by decide) dX5_sightStar_72 ?_
      refine lv_iconst (v := 1) hx hb dX5_sightStar_73 (by decide) ?_
      refine lv_iadd hx hb dX5_sightStar_74 ?_
      have htg := hT.tag 7 rfl
      refine g_iast hx hb hK hT hS (Or.inl htg) 7 0 rfl rfl (tn x) (hxx.1) (by omega) (by decide) dX5_sightStar_75 (fun H locs oq hT' hS => ?_)
      have hR := hR.fr1 oq (by rw [htg]; omega)
      have hT : Tw X ow t (skW X f (sU (sU k 12 (tn r) ((k.1 12 (tn r)) ||| (1 <<< (x &&& 31)))) 3 (tn x) ((k.1 3 (tn x)) + 1))) H := hT'.to (skS_3 X f (sU k 12 (tn r) ((k.1 12 (tn r)) ||| (1 <<< (x &&& 31)))) (tn x) ((k.1 3 (tn x)) + 1))
      refine lv_aload_n hx hb dX5_sightStar_76 rfl (lv_at hl 1 rfl) ?_
      refine g_get (ci := 4) (v := .ref (f 1)) h0 hF inX5 hT.1 0 rfl rfl 0 (by decide) wf_X5_12 rfl rfl dX5_sightStar_77 ?_
      refine lv_iload_n hx hb dX5_sightStar_80 rfl (lv_at hl 3 rfl) ?_
      refine core_p (v := .int (bI (isSeen k (tn x)))) (grV (n := 1) (As := [.int x]) (rest := []) h0 hF (m_X6_isSeen h0 (f := f) (k := (sU (sU k 12 (tn r) ((k.1 12 (tn r)) ||| (1 <<< (x &&& 31)))) 3 (tn x) ((k.1 3 (tn x)) + 1))) (Ok_sU _ _ (by decide) (Ok_sU _ _ (by decide) hO))  x (tn x) hxx.1 hx2) wm_X5_101 wo_X6_isSeen ws_X6__X6_isSeen wz_X6 wc_X6_isSeen ⟨by decide, by decide, by decide +kernel⟩ rfl ⟨Nat.le_of_ble_eq_true rfl, Nat.le_of_ble_eq_true rfl⟩ (ci := 5) ⟨_, hT.1 1 _ rfl⟩ rfl hT.1 hS hAo ⟨Nat.le_of_ble_eq_true rfl, Nat.le_of_ble_eq_true rfl⟩ hl.1 rfl (Nat.le_of_ble_eq_true rfl) dX5_sightStar_81) ?_
      refine lv_if_ne (tgt := 99) hx hb dX5_sightStar_84 (by decide) (fun c_84 => ?_) (fun c_84 => ?_)
      · have n_84 := bI_n0.mp c_84
        refine lv_aload_n hx hb dX5_sightStar_99 rfl (lv_at hl 1 rfl) ?_
        refine g_get (ci := 4) (v := .ref (f 2)) h0 hF inX5 hT.1 0 rfl rfl 1 (by decide) wf_X5_21 rfl rfl dX5_sightStar_100 ?_
        refine g_get (ci := 3) (v := .ref (f 17)) h0 hF inX4 hT.1 2 rfl rfl 9 (by decide) wf_X5_104 rfl rfl dX5_sightStar_103 ?_
        refine lv_iload_n hx hb dX5_sightStar_106 rfl (lv_at hl 2 rfl) ?_
        refine lv_dup2_11 hx hb dX5_sightStar_107 rfl rfl ?_
        refine g_iald hx hb hK hT.1 17 0 rfl rfl (tn r) (hr.1) (by omega) (by decide) dX5_sightStar_108 ?_
        refine lv_iload hx hb dX5_sightStar_109 (lv_at hl 0 rfl) ?_
        refine lv_ior hx hb dX5_sightStar_111 ?_
        have htg := hT.tag 17 rfl
        refine g_iast hx hb hK hT hS (Or.inl htg) 17 0 rfl rfl (tn r) (hr.1) (by omega) (by decide) dX5_sightStar_112 (fun H locs oq hT' hS => ?_)
        have hR := hR.fr1 oq (by rw [htg]; omega)
        have hT : Tw X ow t (skW X f (sU (sU (sU k 12 (tn r) ((k.1 12 (tn r)) ||| (1 <<< (x &&& 31)))) 3 (tn x) ((k.1 3 (tn x)) + 1)) 13 (tn r) ((k.1 13 (tn r)) ||| (1 <<< (x &&& 31))))) H := hT'.to (skS_13 X f (sU (sU k 12 (tn r) ((k.1 12 (tn r)) ||| (1 <<< (x &&& 31)))) 3 (tn x) ((k.1 3 (tn x)) + 1)) (tn r) ((k.1 13 (tn r)) ||| (1 <<< (x &&& 31))))
        refine lv_aload_n hx hb dX5_sightStar_113 rfl (lv_at hl 1 rfl) ?_
        refine lv_iload_n hx hb dX5_sightStar_114 rfl (lv_at hl 2 rfl) ?_
        refine lv_iload_n hx hb dX5_sightStar_115 rfl (lv_at hl 3 rfl) ?_
        refine core_p (v := .int (levI k r (tn x))) (grV (n := 2) (As := [.int r, .int x]) (rest := []) h0 hF (m_X5_levyOn h0 (f := f) (k := (sU (sU (sU k 12 (tn r) ((k.1 12 (tn r)) ||| (1 <<< (x &&& 31)))) 3 (tn x) ((k.1 3 (tn x)) + 1)) 13 (tn r) ((k.1 13 (tn r)) ||| (1 <<< (x &&& 31))))) (Ok_sU _ _ (by decide) (Ok_sU _ _ (by decide) (Ok_sU _ _ (by decide) hO)))  r x (tn x) hxx.1 hx2) wm_X5_107 wo_X5_levyOn ws_X5__X5_levyOn wz_X5 wc_X5_levyOn ⟨by decide, by decide, by decide +kernel⟩ rfl ⟨Nat.le_of_ble_eq_true rfl, Nat.le_of_ble_eq_true rfl⟩ (ci := 4) ⟨_, hT.1 0 _ rfl⟩ rfl hT.1 hS hAo ⟨Nat.le_of_ble_eq_true rfl, Nat.le_of_ble_eq_true rfl⟩ hl.1 rfl (Nat.le_of_ble_eq_true rfl) dX5_sightStar_116) ?_
        refine lv_istore (lv' := [(5, .int (levI k r (tn x))), (4, .int (1 <<< (x &&& 31))), (0, .ref (f 0)), (1, .int r), (2, .int x), (3, .ref a)]) hx hb dX5_sightStar_119 hl (by decide) rfl (fun ls hl => ?_)
        refine lv_aload_n hx hb dX5_sightStar_121 rfl (lv_at hl 2 rfl) ?_
        refine g_get (ci := 4) (v := .ref (f 2)) h0 hF inX5 hT.1 0 rfl rfl 1 (by decide) wf_X5_21 rfl rfl dX5_sightStar_122 ?_
        refine lv_iload_n hx hb dX5_sightStar_125 rfl (lv_at hl 3 rfl) ?_
        refine lv_iload hx hb dX5_sightStar_126 (lv_at hl 0 rfl) ?_
        refine lv_aload_n hx hb dX5_sightStar_128 rfl (lv_at hl 2 rfl) ?_
        refine g_get (ci := 4) (v := .ref (f 1)) h0 hF inX5 hT.1 0 rfl rfl 0 (by decide) wf_X5_12 rfl rfl dX5_sightStar_129 ?_
        refine g_get (ci := 5) (v := .ref (f 6)) h0 hF inX6 hT.1 1 rfl rfl 3 (by decide) wf_X5_110 rfl rfl dX5_sightStar_132 ?_
        refine lv_iload_n hx hb dX5_sightStar_135 rfl (lv_at hl 4 rfl) ?_
        refine g_iald hx hb hK hT.1 6 0 rfl rfl (tn x) (hxx.1) (by omega) (by decide) dX5_sightStar_136 ?_
        refine core_m (A1 := fun q => ow q = t) (grV (n := 3) (As := [.int r, .int (levI k r (tn x)), .int (k.1 2 (tn x))]) (rest := []) h0 hF (m_X4_collect h0 (ow := ow) (t := t) (f := f) (k := (sU (sU (sU k 12 (tn r) ((k.1 12 (tn r)) ||| (1 <<< (x &&& 31)))) 3 (tn x) ((k.1 3 (tn x)) + 1)) 13 (tn r) ((k.1 13 (tn r)) ||| (1 <<< (x &&& 31))))) (Ok_sU _ _ (by decide) (Ok_sU _ _ (by decide) (Ok_sU _ _ (by decide) hO))) (fun q h9 => hz q (by omega))  r (tn r) hr.1 hr2 (levI k r (tn x)) (k.1 2 (tn x))) wm_X5_113 wo_X4_collect ws_X4__X4_collect wz_X4 wc_X4_collect ⟨by decide, by decide, by decide +kernel⟩ rfl ⟨Nat.le_of_ble_eq_true rfl, Nat.le_of_ble_eq_true rfl⟩ (ci := 3) ⟨_, hT.1 2 _ rfl⟩ rfl hT hS hAo ⟨Nat.le_of_ble_eq_true rfl, Nat.le_of_ble_eq_true rfl⟩ hl.1 rfl (Nat.le_of_ble_eq_true rfl) dX5_sightStar_137) hS (fun q (h8 : ow q = t) => (show ow q = t ∨ ow q = u from by omega)) (fun v H locs hq hz1 hk1 hS => ?_)
        obtain ⟨rfl, hT⟩ := hq
        have hT : Tw X ow t (skW X f (colS (sU (sU (sU k 12 (tn r) ((k.1 12 (tn r)) ||| (1 <<< (x &&& 31)))) 3 (tn x) ((k.1 3 (tn x)) + 1)) 13 (tn r) ((k.1 13 (tn r)) ||| (1 <<< (x &&& 31)))) (tn r) (levI k r (tn x)) (k.1 2 (tn x)))) H := hT
        have hR := hR.keep hk1 (fun q h9 (h8 : ow q = t) => by omega)
        refine lv_iload hx hb dX5_sightStar_140 (lv_at hl 0 rfl) ?_
        exact mm_iret hF hS dX5_sightStar_142 (by have e9 : oSight k E r x = ((levI k r (tn x) : Int32), colS (sU (sU (sU k 12 (tn r) ((k.1 12 (tn r)) ||| (1 <<< (x &&& 31)))) 3 (tn x) ((k.1 3 (tn x)) + 1)) 13 (tn r) ((k.1 13 (tn r)) ||| (1 <<< (x &&& 31)))) (tn r) (levI k r (tn x)) (k.1 2 (tn x)), E) := (by first | (simp only [oSight, sgt1, n_6, c_28, n_84, if_true, if_false, Bool.false_eq_true, reduceIte]; done) | (simp only [oSight, sgt1, n_6, c_28, n_84, if_true, if_false, Bool.false_eq_true, reduceIte]; rfl)); exact ⟨by rw [e9], by rw [e9]; exact hT, by rw [e9]; exact hR⟩)
      · have n_84 := bI_0.mp c_84
        refine lv_aload_n hx hb dX5_sightStar_87 rfl (lv_at hl 1 rfl) ?_
        refine lv_dup hx hb dX5_sightStar_88 rfl ?_
        refine g_get (ci := 4) (v := .int (k.1 19 1)) h0 hF inX5 hT.1 0 rfl rfl 4 (by decide) wf_X5_41 rfl rfl dX5_sightStar_89 ?_
        refine lv_iconst (v := 1) hx hb dX5_sightStar_92 (by decide) ?_
        refine lv_iadd hx hb dX5_sightStar_93 ?_
        have htg := hT.tag 0 rfl
        refine g_put (ci := 4) h0 hF inX5 tyX5 tyX5_ok nmX5 hT hS (Or.inl htg) 0 rfl rfl 4 (by decide) wf_X5_41 rfl rfl (tyX5_ok 4 (by decide)) rfl rfl (Nat.le_of_ble_eq_true rfl) dX5_sightStar_94 (fun H locs oq hT' hS => ?_)
        have hR := hR.fr1 oq (by rw [htg]; omega)
        have hT : Tw X ow t (skW X f (sU (sU (sU k 12 (tn r) ((k.1 12 (tn r)) ||| (1 <<< (x &&& 31)))) 3 (tn x) ((k.1 3 (tn x)) + 1)) 19 1 ((k.1 19 1) + 1))) H := hT'.to (skN_1 X f (sU (sU k 12 (tn r) ((k.1 12 (tn r)) ||| (1 <<< (x &&& 31)))) 3 (tn x) ((k.1 3 (tn x)) + 1)) ((k.1 19 1) + 1))
        refine lv_iconst (v := 0) hx hb dX5_sightStar_97 (by decide) ?_
        exact mm_iret hF hS dX5_sightStar_98 (by have e9 : oSight k E r x = ((0 : Int32), sU (sU (sU k 12 (tn r) ((k.1 12 (tn r)) ||| (1 <<< (x &&& 31)))) 3 (tn x) ((k.1 3 (tn x)) + 1)) 19 1 ((k.1 19 1) + 1), E) := (by first | (simp only [oSight, sgt1, n_6, c_28, n_84, if_true, if_false, Bool.false_eq_true, reduceIte]; done) | (simp only [oSight, sgt1, n_6, c_28, n_84, if_true, if_false, Bool.false_eq_true, reduceIte]; rfl)); exact ⟨by rw [e9], by rw [e9]; exact hT, by rw [e9]; exact hR⟩)
    · refine lv_aload_n hx hb dX5_sightStar_31 rfl (lv_at hl 4 rfl) ?_
      refine lv_iconst (v := 3) hx hb dX5_sightStar_32 (by decide) ?_
      refine lv_aload_n hx hb dX5_sightStar_33 rfl (lv_at hl 1 rfl) ?_
      refine g_get (ci := 4) (v := .ref (f 2)) h0 hF inX5 hT.1 0 rfl rfl 1 (by decide) wf_X5_21 rfl rfl dX5_sightStar_34 ?_
      refine g_get (ci := 3) (v := .ref (f 16)) h0 hF inX4 hT.1 2 rfl rfl 8 (by decide) wf_X5_90 rfl rfl dX5_sightStar_37 ?_
      refine lv_iload_n hx hb dX5_sightStar_40 rfl (lv_at hl 2 rfl) ?_
      refine g_iald hx hb hK hT.1 16 0 rfl rfl (tn r) (hr.1) (by omega) (by decide) dX5_sightStar_41 ?_
      refine core_p (v := .int (bcI (k.1 12 (tn r)))) (grS (n := 1) (As := [.int (k.1 12 (tn r))]) (rest := [.int 3, .ref a]) h0 hF (m_J6_bitCount_0f7a4 h0 (k.1 12 (tn r))) wm_X5_93 wt_J6_bitCount_0f7a4 wz_J6 wc_J6_bitCount_0f7a4 ⟨by decide, by decide, by decide +kernel⟩ rfl ⟨Nat.le_of_ble_eq_true rfl, Nat.le_of_ble_eq_true rfl⟩ trivial hS hAo ⟨Nat.le_of_ble_eq_true rfl, Nat.le_of_ble_eq_true rfl⟩ hl.1 rfl (Nat.le_of_ble_eq_true rfl) dX5_sightStar_42) ?_
      refine core_m (A1 := fun q => ow q = u) (grV (n := 2) (As := [.int 3, .int (bcI (k.1 12 (tn r)))]) (rest := []) h0 hF (m_X3_because h0 (ow := ow) (u := u) (a := a) (E := E) 3 (bcI (k.1 12 (tn r)))) wm_X5_69 wo_X3_because ws_X3__X3_because wz_X3 wc_X3_because ⟨by decide, by decide, by decide +kernel⟩ rfl ⟨Nat.le_of_ble_eq_true rfl, Nat.le_of_ble_eq_true rfl⟩ (ci := 2) ⟨_, hR.1 0 _ rfl⟩ rfl hR hS hAo ⟨Nat.le_of_ble_eq_true rfl, Nat.le_of_ble_eq_true rfl⟩ hl.1 rfl (Nat.le_of_ble_eq_true rfl) dX5_sightStar_45) hS (fun q (h8 : ow q = u) => (show ow q = t ∨ ow q = u from by omega)) (fun v H locs hq hz1 hk1 hS => ?_)
      obtain ⟨rfl, hR⟩ := hq
      have hT := hT.keep hk1 (fun q h9 (h8 : ow q = u) => by omega)
      have hR : Tw X ow u (reW a (rfN 3 (bcI (k.1 12 (tn r))))) H := hR
      exact mm_iret hF hS dX5_sightStar_48 (by have e9 : oSight k E r x = (((-3) : Int32), k, rfN 3 (bcI (k.1 12 (tn r)))) := (by first | (simp only [oSight, sgt1, n_6, c_28, if_true, if_false, Bool.false_eq_true, reduceIte]; done) | (simp only [oSight, sgt1, n_6, c_28, if_true, if_false, Bool.false_eq_true, reduceIte]; rfl)); exact ⟨by rw [e9], by rw [e9]; exact hT, by rw [e9]; exact hR⟩)
  · have n_6 := bI_0.mp c_6
    refine lv_iconst (v := (-1)) hx hb dX5_sightStar_9 (by decide) ?_
    exact mm_iret hF hS dX5_sightStar_10 (by have e9 : oSight k E r x = (((-1) : Int32), k, E) := (by first | (simp only [oSight, sgt1, n_6, if_true, if_false, Bool.false_eq_true, reduceIte]; done) | (simp only [oSight, sgt1, n_6, if_true, if_false, Bool.false_eq_true, reduceIte]; rfl)); exact ⟨by rw [e9], by rw [e9]; exact hT, by rw [e9]; exact hR⟩)

set_option maxHeartbeats 4000000 in
set_option maxRecDepth 100000 in
theorem m_X5_claimStar {X : Cx} {l : Launch} (h0 : Init X) {ow : Nat → Nat} {t u a : Nat} {f : Nat → Nat} {k : Sk} {E : Nat → Int32} (hO : Ok k) (htu : t ≠ u) (hz : ∀ q, ow q = t ∨ ow q = u → X.z ≤ q) (r x : Int32) : MM X l yX5_claimStar cX5_claimStar 5 (some .int) 2 43 0 0 [.ref (f 0), .int r, .int x, .ref a] (fun H => Tw X ow t (skW X f k) H ∧ Tw X ow u (reW a E) H) (fun v H => v = some (.int (oClaim k E r x).1) ∧ Tw X ow t (skW X f (oClaim k E r x).2.1) H ∧ Tw X ow u (reW a (oClaim k E r x).2.2) H) (fun q => ow q = t ∨ ow q = u) := by
  refine Met.mk (Bh := (fun H => Tw X ow t (skW X f k) H ∧ Tw X ow u (reW a E) H)) (by decide) (Nat.le_of_ble_eq_true rfl) ?_
  intro p e s m below meth c ls hF hB hl
  obtain ⟨hT, hR⟩ := hB
  have hl : lv_has ls 5 [(0, .ref (f 0)), (1, .int r), (2, .int x), (3, .ref a)] := hl
  obtain ⟨hx, hb, hml, hr, hlk, hown, hG⟩ := id hF
  have hK := hG.K h0
  have hS : va_S (fun q => ow q = t ∨ ow q = u) s.heap s.heap [] := va_S.rf
  have hO1 := hO.1
  have hO2 := hO.2.1
  have hO3 := hO.2.2.1
  have hAo : ∀ q, q < X.z → ¬ (fun q => ow q = t ∨ ow q = u) q := fun q h9 (h8 : ow q = t ∨ ow q = u) => absurd (hz q h8) (by omega)
  refine lv_aload_n hx hb dX5_claimStar_0 rfl (lv_at hl 0 rfl) ?_
  refine lv_iload_n hx hb dX5_claimStar_1 rfl (lv_at hl 1 rfl) ?_
  refine lv_iload_n hx hb dX5_claimStar_2 rfl (lv_at hl 2 rfl) ?_
  refine core_p (v := .int (bI (hasB (k.2 1) r && hasB (k.2 0) x))) (grV (n := 2) (As := [.int r, .int x]) (rest := []) h0 hF (m_X5_hasBoth h0 (f := f) (k := k) hO  r x) wm_X5_86 wo_X5_hasBoth ws_X5__X5_hasBoth wz_X5 wc_X5_hasBoth ⟨by decide, by decide, by decide +kernel⟩ rfl ⟨Nat.le_of_ble_eq_true rfl, Nat.le_of_ble_eq_true rfl⟩ (ci := 4) ⟨_, hT.1 0 _ rfl⟩ rfl hT.1 hS hAo ⟨Nat.le_of_ble_eq_true rfl, Nat.le_of_ble_eq_true rfl⟩ hl.1 rfl (Nat.le_of_ble_eq_true rfl) dX5_claimStar_3) ?_
  refine lv_if_ne (tgt := 11) hx hb dX5_claimStar_6 (by decide) (fun c_6 => ?_) (fun c_6 => ?_)
  · have n_6 := bI_n0.mp c_6
    have hr := hasB_tn (Bool.and_eq_true_iff.mp n_6).1 (by omega)
    have hr2 := hr.2
    have hxx := hasB_tn (Bool.and_eq_true_iff.mp n_6).2 (by omega)
    have hx2 := hxx.2
    refine lv_aload_n hx hb dX5_claimStar_11 rfl (lv_at hl 0 rfl) ?_
    refine g_get (ci := 4) (v := .ref (f 1)) h0 hF inX5 hT.1 0 rfl rfl 0 (by decide) wf_X5_12 rfl rfl dX5_claimStar_12 ?_
    refine g_get (ci := 5) (v := .ref (f 6)) h0 hF inX6 hT.1 1 rfl rfl 3 (by decide) wf_X5_110 rfl rfl dX5_claimStar_15 ?_
    refine lv_iload_n hx hb dX5_claimStar_18 rfl (lv_at hl 2 rfl) ?_
    refine g_iald hx hb hK hT.1 6 0 rfl rfl (tn x) (hxx.1) (by omega) (by decide) dX5_claimStar_19 ?_
    refine lv_bipush (v := (-4)) hx hb dX5_claimStar_20 (by decide) ?_
    refine lv_icmp_eq (tgt := 40) hx hb dX5_claimStar_22 (by decide) (fun c_22 => ?_) (fun c_22 => ?_)
    · refine lv_iconst (v := 2) hx hb dX5_claimStar_40 (by decide) ?_
      refine lv_aload_n hx hb dX5_claimStar_41 rfl (lv_at hl 0 rfl) ?_
      refine g_get (ci := 4) (v := .ref (f 1)) h0 hF inX5 hT.1 0 rfl rfl 0 (by decide) wf_X5_12 rfl rfl dX5_claimStar_42 ?_
      refine g_get (ci := 5) (v := .ref (f 4)) h0 hF inX6 hT.1 1 rfl rfl 1 (by decide) wf_X5_117 rfl rfl dX5_claimStar_45 ?_
      refine lv_iload_n hx hb dX5_claimStar_48 rfl (lv_at hl 2 rfl) ?_
      refine g_iald hx hb hK hT.1 4 0 rfl rfl (tn x) (hxx.1) (by omega) (by decide) dX5_claimStar_49 ?_
      refine lv_imul hx hb dX5_claimStar_50 ?_
      refine lv_istore (lv' := [(4, .int (2 * (k.1 0 (tn x)))), (0, .ref (f 0)), (1, .int r), (2, .int x), (3, .ref a)]) hx hb dX5_claimStar_51 hl (by decide) rfl (fun ls hl => ?_)
      refine lv_aload_n hx hb dX5_claimStar_53 rfl (lv_at hl 1 rfl) ?_
      refine g_get (ci := 4) (v := .ref (f 2)) h0 hF inX5 hT.1 0 rfl rfl 1 (by decide) wf_X5_21 rfl rfl dX5_claimStar_54 ?_
      refine g_get (ci := 3) (v := .ref (f 9)) h0 hF inX4 hT.1 2 rfl rfl 1 (by decide) wf_X5_120 rfl rfl dX5_claimStar_57 ?_
      refine lv_iload_n hx hb dX5_claimStar_60 rfl (lv_at hl 2 rfl) ?_
      refine g_iald hx hb hK hT.1 9 0 rfl rfl (tn r) (hr.1) (by omega) (by decide) dX5_claimStar_61 ?_
      refine lv_iload hx hb dX5_claimStar_62 (lv_at hl 0 rfl) ?_
      refine lv_icmp_ge (tgt := 86) hx hb dX5_claimStar_64 (by decide) (fun c_64 => ?_) (fun c_64 => ?_)
      · have n_64 := Int32.not_lt.mpr c_64
        refine lv_aload_n hx hb dX5_claimStar_86 rfl (lv_at hl 1 rfl) ?_
        refine g_get (ci := 4) (v := .ref (f 2)) h0 hF inX5 hT.1 0 rfl rfl 1 (by decide) wf_X5_21 rfl rfl dX5_claimStar_87 ?_
        refine g_get (ci := 3) (v := .ref (f 9)) h0 hF inX4 hT.1 2 rfl rfl 1 (by decide) wf_X5_120 rfl rfl dX5_claimStar_90 ?_
        refine lv_iload_n hx hb dX5_claimStar_93 rfl (lv_at hl 2 rfl) ?_
        refine lv_dup2_11 hx hb dX5_claimStar_94 rfl rfl ?_
        refine g_iald hx hb hK hT.1 9 0 rfl rfl (tn r) (hr.1) (by omega) (by decide) dX5_claimStar_95 ?_
        refine lv_iload hx hb dX5_claimStar_96 (lv_at hl 0 rfl) ?_
        refine lv_isub hx hb dX5_claimStar_98 ?_
        have htg := hT.tag 9 rfl
        refine g_iast hx hb hK hT hS (Or.inl htg) 9 0 rfl rfl (tn r) (hr.1) (by omega) (by decide) dX5_claimStar_99 (fun H locs oq hT' hS => ?_)
        have hR := hR.fr1 oq (by rw [htg]; omega)
        have hT : Tw X ow t (skW X f (sU k 5 (tn r) ((k.1 5 (tn r)) - (2 * (k.1 0 (tn x)))))) H := hT'.to (skS_5 X f k (tn r) ((k.1 5 (tn r)) - (2 * (k.1 0 (tn x)))))
        refine lv_aload_n hx hb dX5_claimStar_100 rfl (lv_at hl 1 rfl) ?_
        refine g_get (ci := 4) (v := .ref (f 1)) h0 hF inX5 hT.1 0 rfl rfl 0 (by decide) wf_X5_12 rfl rfl dX5_claimStar_101 ?_
        refine g_get (ci := 5) (v := .ref (f 6)) h0 hF inX6 hT.1 1 rfl rfl 3 (by decide) wf_X5_110 rfl rfl dX5_claimStar_104 ?_
        refine lv_iload_n hx hb dX5_claimStar_107 rfl (lv_at hl 3 rfl) ?_
        refine lv_iload_n hx hb dX5_claimStar_108 rfl (lv_at hl 2 rfl) ?_
        have htg := hT.tag 6 rfl
        refine g_iast hx hb hK hT hS (Or.inl htg) 6 0 rfl rfl (tn x) (hxx.1) (by omega) (by decide) dX5_claimStar_109 (fun H locs oq hT' hS => ?_)
        have hR := hR.fr1 oq (by rw [htg]; omega)
        have hT : Tw X ow t (skW X f (sU (sU k 5 (tn r) ((k.1 5 (tn r)) - (2 * (k.1 0 (tn x))))) 2 (tn x) r)) H := hT'.to (skS_2 X f (sU k 5 (tn r) ((k.1 5 (tn r)) - (2 * (k.1 0 (tn x))))) (tn x) r)
        refine lv_iload hx hb dX5_claimStar_110 (lv_at hl 0 rfl) ?_
        exact mm_iret hF hS dX5_claimStar_112 (by have e9 : oClaim k E r x = ((2 * (k.1 0 (tn x)) : Int32), sU (sU k 5 (tn r) ((k.1 5 (tn r)) - (2 * (k.1 0 (tn x))))) 2 (tn x) r, E) := (by first | (simp only [oClaim, n_6, c_22, c_64, n_64, if_true, if_false, Bool.false_eq_true, reduceIte]; done) | (simp only [oClaim, n_6, c_22, c_64, n_64, if_true, if_false, Bool.false_eq_true, reduceIte]; rfl)); exact ⟨by rw [e9], by rw [e9]; exact hT, by rw [e9]; exact hR⟩)
      · have n_64 := Int32.not_le.mp c_64
        refine lv_aload_n hx hb dX5_claimStar_67 rfl (lv_at hl 4 rfl) ?_
        refine lv_bipush (v := 6) hx hb dX5_claimStar_68 (by decide) ?_
        refine lv_iload hx hb dX5_claimStar_70 (lv_at hl 0 rfl) ?_
        refine lv_aload_n hx hb dX5_claimStar_72 rfl (lv_at hl 1 rfl) ?_
        refine g_get (ci := 4) (v := .ref (f 2)) h0 hF inX5 hT.1 0 rfl rfl 1 (by decide) wf_X5_21 rfl rfl dX5_claimStar_73 ?_
        refine g_get (ci := 3) (v := .ref (f 9)) h0 hF inX4 hT.1 2 rfl rfl 1 (by decide) wf_X5_120 rfl rfl dX5_claimStar_76 ?_
        refine lv_iload_n hx hb dX5_claimStar_79 rfl (lv_at hl 2 rfl) ?_
        refine g_iald hx hb hK hT.1 9 0 rfl rfl (tn r) (hr.1) (by omega) (by decide) dX5_claimStar_80 ?_
        refine lv_isub hx hb dX5_claimStar_81 ?_
        refine core_m (A1 := fun q => ow q = u) (grV (n := 2) (As := [.int 6, .int ((2 * (k.1 0 (tn x))) - (k.1 5 (tn r)))]) (rest := []) h0 hF (m_X3_because h0 (ow := ow) (u := u) (a := a) (E := E) 6 ((2 * (k.1 0 (tn x))) - (k.1 5 (tn r)))) wm_X5_69 wo_X3_because ws_X3__X3_because wz_X3 wc_X3_because ⟨by decide, by decide, by decide +kernel⟩ rfl ⟨Nat.le_of_ble_eq_true rfl, Nat.le_of_ble_eq_true rfl⟩ (ci := 2) ⟨_, hR.1 0 _ rfl⟩ rfl hR hS hAo ⟨Nat.le_of_ble_eq_true rfl, Nat.le_of_ble_eq_true rfl⟩ hl.1 rfl (Nat.le_of_ble_eq_true rfl) dX5_claimStar_82) hS (fun q (h8 : ow q = u) => (show ow q = t ∨ ow q = u from by omega)) (fun v H locs hq hz1 hk1 hS => ?_)
        obtain ⟨rfl, hR⟩ := hq
        have hT := hT.keep hk1 (fun q h9 (h8 : ow q = u) => by omega)
        have hR : Tw X ow u (reW a (rfN 6 ((2 * (k.1 0 (tn x))) - (k.1 5 (tn r))))) H := hR
        exact mm_iret hF hS dX5_claimStar_85 (by have e9 : oClaim k E r x = (((-3) : Int32), k, rfN 6 ((2 * (k.1 0 (tn x))) - (k.1 5 (tn r)))) := (by first | (simp only [oClaim, n_6, c_22, c_64, n_64, if_true, if_false, Bool.false_eq_true, reduceIte]; done) | (simp only [oClaim, n_6, c_22, c_64, n_64, if_true, if_false, Bool.false_eq_true, reduceIte]; rfl)); exact ⟨by rw [e9], by rw [e9]; exact hT, by rw [e9]; exact hR⟩)
    · refine lv_aload_n hx hb dX5_claimStar_25 rfl (lv_at hl 3 rfl) ?_
      refine lv_iconst (v := 5) hx hb dX5_claimStar_26 (by decide) ?_
      refine lv_aload_n hx hb dX5_claimStar_27 rfl (lv_at hl 0 rfl) ?_
      refine g_get (ci := 4) (v := .ref (f 1)) h0 hF inX5 hT.1 0 rfl rfl 0 (by decide) wf_X5_12 rfl rfl dX5_claimStar_28 ?_
      refine g_get (ci := 5) (v := .ref (f 6)) h0 hF inX6 hT.1 1 rfl rfl 3 (by decide) wf_X5_110 rfl rfl dX5_claimStar_31 ?_
      refine lv_iload_n hx hb dX5_claimStar_34 rfl (lv_at hl 2 rfl) ?_
      refine g_iald hx hb hK hT.1 6 0 rfl rfl (tn x) (hxx.1) (by omega) (by decide) dX5_claimStar_35 ?_
      refine core_m (A1 := fun q => ow q = u) (grV (n := 2) (As := [.int 5, .int (k.1 2 (tn x))]) (rest := []) h0 hF (m_X3_because h0 (ow := ow) (u := u) (a := a) (E := E) 5 (k.1 2 (tn x))) wm_X5_69 wo_X3_because ws_X3__X3_because wz_X3 wc_X3_because ⟨by decide, by decide, by decide +kernel⟩ rfl ⟨Nat.le_of_ble_eq_true rfl, Nat.le_of_ble_eq_true rfl⟩ (ci := 2) ⟨_, hR.1 0 _ rfl⟩ rfl hR hS hAo ⟨Nat.le_of_ble_eq_true rfl, Nat.le_of_ble_eq_true rfl⟩ hl.1 rfl (Nat.le_of_ble_eq_true rfl) dX5_claimStar_36) hS (fun q (h8 : ow q = u) => (show ow q = t ∨ ow q = u from by omega)) (fun v H locs hq hz1 hk1 hS => ?_)
      obtain ⟨rfl, hR⟩ := hq
      have hT := hT.keep hk1 (fun q h9 (h8 : ow q = u) => by omega)
      have hR : Tw X ow u (reW a (rfN 5 (k.1 2 (tn x)))) H := hR
      exact mm_iret hF hS dX5_claimStar_39 (by have e9 : oClaim k E r x = (((-3) : Int32), k, rfN 5 (k.1 2 (tn x))) := (by first | (simp only [oClaim, n_6, c_22, if_true, if_false, Bool.false_eq_true, reduceIte]; done) | (simp only [oClaim, n_6, c_22, if_true, if_false, Bool.false_eq_true, reduceIte]; rfl)); exact ⟨by rw [e9], by rw [e9]; exact hT, by rw [e9]; exact hR⟩)
  · have n_6 := bI_0.mp c_6
    refine lv_iconst (v := (-1)) hx hb dX5_claimStar_9 (by decide) ?_
    exact mm_iret hF hS dX5_claimStar_10 (by have e9 : oClaim k E r x = (((-1) : Int32), k, E) := (by first | (simp only [oClaim, n_6, if_true, if_false, Bool.false_eq_true, reduceIte]; done) | (simp only [oClaim, n_6, if_true, if_false, Bool.false_eq_true, reduceIte]; rfl)); exact ⟨by rw [e9], by rw [e9]; exact hT, by rw [e9]; exact hR⟩)

set_option maxHeartbeats 4000000 in
set_option maxRecDepth 100000 in
theorem m_X5_dropClaim {X : Cx} {l : Launch} (h0 : Init X) {ow : Nat → Nat} {t u a : Nat} {f : Nat → Nat} {k : Sk} {E : Nat → Int32} (hO : Ok k) (htu : t ≠ u) (hz : ∀ q, ow q = t ∨ ow q = u → X.z ≤ q) (x : Int32) : MM X l yX5_dropClaim cX5_dropClaim 4 (some .int) 1 22 0 0 [.ref (f 0), .int x, .ref a] (fun H => Tw X ow t (skW X f k) H ∧ Tw X ow u (reW a E) H) (fun v H => v = some (.int (oDrop k E x).1) ∧ Tw X ow t (skW X f (oDrop k E x).2.1) H ∧ Tw X ow u (reW a (oDrop k E x).2.2) H) (fun q => ow q = t ∨ ow q = u) := by
  refine Met.mk (Bh := (fun H => Tw X ow t (skW X f k) H ∧ Tw X ow u (reW a E) H)) (by decide) (Nat.le_of_ble_eq_true rfl) ?_
  intro p e s m below meth c ls hF hB hl
  obtain ⟨hT, hR⟩ := hB
  have hl : lv_has ls 4 [(0, .ref (f 0)), (1, .int x), (2, .ref a)] := hl
  obtain ⟨hx, hb, hml, hr, hlk, hown, hG⟩ := id hF
  have hK := hG.K h0
  have hS : va_S (fun q => ow q = t ∨ ow q = u) s.heap s.heap [] := va_S.rf
  have hO1 := hO.1
  have hO2 := hO.2.1
  have hO3 := hO.2.2.1
  have hAo : ∀ q, q < X.z → ¬ (fun q => ow q = t ∨ ow q = u) q := fun q h9 (h8 : ow q = t ∨ ow q = u) => absurd (hz q h8) (by omega)
  refine lv_aload_n hx hb dX5_dropClaim_0 rfl (lv_at hl 0 rfl) ?_
  refine g_get (ci := 4) (v := .ref (f 1)) h0 hF inX5 hT.1 0 rfl rfl 0 (by decide) wf_X5_12 rfl rfl dX5_dropClaim_1 ?_
  refine lv_iload_n hx hb dX5_dropClaim_4 rfl (lv_at hl 1 rfl) ?_
  refine core_p (v := .int (bI (hasB (k.2 0) x))) (grV (n := 1) (As := [.int x]) (rest := []) h0 hF (m_X6_has h0 (f := f) (k := k) hO  x) wm_X5_58 wo_X6_has ws_X6__X6_has wz_X6 wc_X6_has ⟨by decide, by decide, by decide +kernel⟩ rfl ⟨Nat.le_of_ble_eq_true rfl, Nat.le_of_ble_eq_true rfl⟩ (ci := 5) ⟨_, hT.1 1 _ rfl⟩ rfl hT.1 hS hAo ⟨Nat.le_of_ble_eq_true rfl, Nat.le_of_ble_eq_true rfl⟩ hl.1 rfl (Nat.le_of_ble_eq_true rfl) dX5_dropClaim_5) ?_
  refine lv_if_ne (tgt := 13) hx hb dX5_dropClaim_8 (by decide) (fun c_8 => ?_) (fun c_8 => ?_)
  · have n_8 := bI_n0.mp c_8
    have hxx := hasB_tn n_8 (by omega)
    have hx2 := hxx.2
    refine lv_aload_n hx hb dX5_dropClaim_13 rfl (lv_at hl 0 rfl) ?_
    refine g_get (ci := 4) (v := .ref (f 1)) h0 hF inX5 hT.1 0 rfl rfl 0 (by decide) wf_X5_12 rfl rfl dX5_dropClaim_14 ?_
    refine g_get (ci := 5) (v := .ref (f 6)) h0 hF inX6 hT.1 1 rfl rfl 3 (by decide) wf_X5_110 rfl rfl dX5_dropClaim_17 ?_
    refine lv_iload_n hx hb dX5_dropClaim_20 rfl (lv_at hl 1 rfl) ?_
    refine g_iald hx hb hK hT.1 6 0 rfl rfl (tn x) (hxx.1) (by omega) (by decide) dX5_dropClaim_21 ?_
    refine lv_istore_n (lv' := [(3, .int (k.1 2 (tn x))), (0, .ref (f 0)), (1, .int x), (2, .ref a)]) hx hb dX5_dropClaim_22 rfl hl (by decide) rfl (fun ls hl => ?_)
    refine lv_iload_n hx hb dX5_dropClaim_23 rfl (lv_at hl 0 rfl) ?_
    refine lv_bipush (v := (-4)) hx hb dX5_dropClaim_24 (by decide) ?_
    refine lv_icmp_ne (tgt := 37) hx hb dX5_dropClaim_26 (by decide) (fun c_26 => ?_) (fun c_26 => ?_)
    · refine lv_aload_n hx hb dX5_dropClaim_37 rfl (lv_at hl 1 rfl) ?_
      refine g_get (ci := 4) (v := .ref (f 1)) h0 hF inX5 hT.1 0 rfl rfl 0 (by decide) wf_X5_12 rfl rfl dX5_dropClaim_38 ?_
      refine g_get (ci := 5) (v := .ref (f 6)) h0 hF inX6 hT.1 1 rfl rfl 3 (by decide) wf_X5_110 rfl rfl dX5_dropClaim_41 ?_
      refine lv_iload_n hx hb dX5_dropClaim_44 rfl (lv_at hl 2 rfl) ?_
      refine lv_bipush (v := (-4)) hx hb dX5_dropClaim_45 (by decide) ?_
      have htg := hT.tag 6 rfl
      refine g_iast hx hb hK hT hS (Or.inl htg) 6 0 rfl rfl (tn x) (hxx.1) (by omega) (by decide) dX5_dropClaim_47 (fun H locs oq hT' hS => ?_)
      have hR := hR.fr1 oq (by rw [htg]; omega)
      have hT : Tw X ow t (skW X f (sU k 2 (tn x) (-4))) H := hT'.to (skS_2 X f k (tn x) (-4))
      refine lv_iload_n hx hb dX5_dropClaim_48 rfl (lv_at hl 0 rfl) ?_
      exact mm_iret hF hS dX5_dropClaim_49 (by have e9 : oDrop k E x = ((k.1 2 (tn x) : Int32), sU k 2 (tn x) (-4), E) := (by first | (simp only [oDrop, n_8, c_26, if_true, if_false, Bool.false_eq_true, reduceIte]; done) | (simp only [oDrop, n_8, c_26, if_true, if_false, Bool.false_eq_true, reduceIte]; rfl)); exact ⟨by rw [e9], by rw [e9]; exact hT, by rw [e9]; exact hR⟩)
    · refine lv_aload_n hx hb dX5_dropClaim_29 rfl (lv_at hl 3 rfl) ?_
      refine lv_bipush (v := 7) hx hb dX5_dropClaim_30 (by decide) ?_
      refine lv_iload_n hx hb dX5_dropClaim_32 rfl (lv_at hl 2 rfl) ?_
      refine core_m (A1 := fun q => ow q = u) (grV (n := 2) (As := [.int 7, .int x]) (rest := []) h0 hF (m_X3_because h0 (ow := ow) (u := u) (a := a) (E := E) 7 x) wm_X5_69 wo_X3_because ws_X3__X3_because wz_X3 wc_X3_because ⟨by decide, by decide, by decide +kernel⟩ rfl ⟨Nat.le_of_ble_eq_true rfl, Nat.le_of_ble_eq_true rfl⟩ (ci := 2) ⟨_, hR.1 0 _ rfl⟩ rfl hR hS hAo ⟨Nat.le_of_ble_eq_true rfl, Nat.le_of_ble_eq_true rfl⟩ hl.1 rfl (Nat.le_of_ble_eq_true rfl) dX5_dropClaim_33) hS (fun q (h8 : ow q = u) => (show ow q = t ∨ ow q = u from by omega)) (fun v H locs hq hz1 hk1 hS => ?_)
      obtain ⟨rfl, hR⟩ := hq
      have hT := hT.keep hk1 (fun q h9 (h8 : ow q = u) => by omega)
      have hR : Tw X ow u (reW a (rfN 7 x)) H := hR
      exact mm_iret hF hS dX5_dropClaim_36 (by have e9 : oDrop k E x = (((-3) : Int32), k, rfN 7 x) := (by first | (simp only [oDrop, n_8, c_26, if_true, if_false, Bool.false_eq_true, reduceIte]; done) | (simp only [oDrop, n_8, c_26, if_true, if_false, Bool.false_eq_true, reduceIte]; rfl)); exact ⟨by rw [e9], by rw [e9]; exact hT, by rw [e9]; exact hR⟩)
  · have n_8 := bI_0.mp c_8
    refine lv_iconst (v := (-1)) hx hb dX5_dropClaim_11 (by decide) ?_
    exact mm_iret hF hS dX5_dropClaim_12 (by have e9 : oDrop k E x = (((-1) : Int32), k, E) := (by first | (simp only [oDrop, n_8, if_true, if_false, Bool.false_eq_true, reduceIte]; done) | (simp only [oDrop, n_8, if_true, if_false, Bool.false_eq_true, reduceIte]; rfl)); exact ⟨by rw [e9], by rw [e9]; exact hT, by rw [e9]; exact hR⟩)

set_option maxHeartbeats 4000000 in
set_option maxRecDepth 100000 in
theorem m_X5_addWish {X : Cx} {l : Launch} (h0 : Init X) {ow : Nat → Nat} {t u a : Nat} {f : Nat → Nat} {k : Sk} {E : Nat → Int32} (hO : Ok k) (htu : t ≠ u) (hz : ∀ q, ow q = t ∨ ow q = u → X.z ≤ q) (r x d : Int32) : MM X l yX5_addWish cX5_addWish 5 (some .int) 2 43 0 0 [.ref (f 0), .int r, .int x, .int d, .ref a] (fun H => Tw X ow t (skW X f k) H ∧ Tw X ow u (reW a E) H) (fun v H => v = some (.int (oWish k E r x d).1) ∧ Tw X ow t (skW X f (oWish k E r x d).2.1) H ∧ Tw X ow u (reW a (oWish k E r x d).2.2) H) (fun q => ow q = t ∨ ow q = u) := by
  refine Met.mk (Bh := (fun H => Tw X ow t (skW X f k) H ∧ Tw X ow u (reW a E) H)) (by decide) (Nat.le_of_ble_eq_true rfl) ?_
  intro p e s m below meth c ls hF hB hl
  obtain ⟨hT, hR⟩ := hB
  have hl : lv_has ls 5 [(0, .ref (f 0)), (1, .int r), (2, .int x), (3, .int d), (4, .ref a)] := hl
  obtain ⟨hx, hb, hml, hr, hlk, hown, hG⟩ := id hF
  have hK := hG.K h0
  have hS : va_S (fun q => ow q = t ∨ ow q = u) s.heap s.heap [] := va_S.rf
  have hO1 := hO.1
  have hO2 := hO.2.1
  have hO3 := hO.2.2.1
  have hAo : ∀ q, q < X.z → ¬ (fun q => ow q = t ∨ ow q = u) q := fun q h9 (h8 : ow q = t ∨ ow q = u) => absurd (hz q h8) (by omega)
  refine lv_aload_n hx hb dX5_addWish_0 rfl (lv_at hl 0 rfl) ?_
  refine lv_iload_n hx hb dX5_addWish_1 rfl (lv_at hl 1 rfl) ?_
  refine lv_iload_n hx hb dX5_addWish_2 rfl (lv_at hl 2 rfl) ?_
  refine core_p (v := .int (bI (hasB (k.2 1) r && hasB (k.2 0) x))) (grV (n := 2) (As := [.int r, .int x]) (rest := []) h0 hF (m_X5_hasBoth h0 (f := f) (k := k) hO  r x) wm_X5_86 wo_X5_hasBoth ws_X5__X5_hasBoth wz_X5 wc_X5_hasBoth ⟨by decide, by decide, by decide +kernel⟩ rfl ⟨Nat.le_of_ble_eq_true rfl, Nat.le_of_ble_eq_true rfl⟩ (ci := 4) ⟨_, hT.1 0 _ rfl⟩ rfl hT.1 hS hAo ⟨Nat.le_of_ble_eq_true rfl, Nat.le_of_ble_eq_true rfl⟩ hl.1 rfl (Nat.le_of_ble_eq_true rfl) dX5_addWish_3) ?_
  refine lv_if_ne (tgt := 11) hx hb dX5_addWish_6 (by decide) (fun c_6 => ?_) (fun c_6 => ?_)
  · have n_6 := bI_n0.mp c_6
    have hr := hasB_tn (Bool.and_eq_true_iff.mp n_6).1 (by omega)
    have hr2 := hr.2
    have hxx := hasB_tn (Bool.and_eq_true_iff.mp n_6).2 (by omega)
    have hx2 := hxx.2
    refine lv_iload_n hx hb dX5_addWish_11 rfl (lv_at hl 3 rfl) ?_
    refine lv_iconst (v := 0) hx hb dX5_addWish_12 (by decide) ?_
    refine lv_bipush (v := 9) hx hb dX5_addWish_13 (by decide) ?_
    refine core_p (v := .int (bI (winB d 0 9))) (grSN (n := 3) (As := [.int d, .int 0, .int 9]) (rest := []) h0 hF (m_X9_isWithin h0 d 0 9) wmn_X5_62 wt_X9_isWithin wz_X9 wc_X9_isWithin ⟨by decide, by decide, by decide +kernel⟩ rfl ⟨Nat.le_of_ble_eq_true rfl, Nat.le_of_ble_eq_true rfl⟩ trivial hS hAo ⟨Nat.le_of_ble_eq_true rfl, Nat.le_of_ble_eq_true rfl⟩ hl.1 rfl (Nat.le_of_ble_eq_true rfl) dX5_addWish_15) ?_
    refine lv_if_ne (tgt := 24) hx hb dX5_addWish_18 (by decide) (fun c_18 => ?_) (fun c_18 => ?_)
    · have n_18 := bI_n0.mp c_18
      refine lv_aload_n hx hb dX5_addWish_24 rfl (lv_at hl 0 rfl) ?_
      refine g_get (ci := 4) (v := .ref (f 2)) h0 hF inX5 hT.1 0 rfl rfl 1 (by decide) wf_X5_21 rfl rfl dX5_addWish_25 ?_
      refine g_get (ci := 3) (v := .ref (f 17)) h0 hF inX4 hT.1 2 rfl rfl 9 (by decide) wf_X5_104 rfl rfl dX5_addWish_28 ?_
      refine lv_iload_n hx hb dX5_addWish_31 rfl (lv_at hl 1 rfl) ?_
      refine g_iald hx hb hK hT.1 17 0 rfl rfl (tn r) (hr.1) (by omega) (by decide) dX5_addWish_32 ?_
      refine lv_iconst (v := 1) hx hb dX5_addWish_33 (by decide) ?_
      refine lv_iload_n hx hb dX5_addWish_34 rfl (lv_at hl 2 rfl) ?_
      refine lv_ishl hx hb dX5_addWish_35 ?_
      refine lv_iand hx hb dX5_addWish_36 ?_
      refine lv_if_ne (tgt := 59) hx hb dX5_addWish_37 (by decide) (fun c_37 => ?_) (fun c_37 => ?_)
      · refine lv_aload_n hx hb dX5_addWish_59 rfl (lv_at hl 0 rfl) ?_
        refine g_get (ci := 4) (v := .ref (f 3)) h0 hF inX5 hT.1 0 rfl rfl 2 (by decide) wf_X5_28 rfl rfl dX5_addWish_60 ?_
        refine g_get (ci := 6) (v := .int (nI (k.2 2))) h0 hF inX7 hT.1 3 rfl rfl 0 (by decide) wf_X5_123 rfl rfl dX5_addWish_63 ?_
        refine lv_bipush (v := 8) hx hb dX5_addWish_66 (by decide) ?_
        refine lv_icmp_lt (tgt := 80) hx hb dX5_addWish_68 (by decide) (fun c_68 => ?_) (fun c_68 => ?_)
        · have n_68 := Int32.not_le.mpr c_68
          refine lv_aload_n hx hb dX5_addWish_80 rfl (lv_at hl 0 rfl) ?_
          refine g_get (ci := 4) (v := .ref (f 3)) h0 hF inX5 hT.1 0 rfl rfl 2 (by decide) wf_X5_28 rfl rfl dX5_addWish_81 ?_
          refine lv_iload_n hx hb dX5_addWish_84 rfl (lv_at hl 1 rfl) ?_
          refine lv_iload_n hx hb dX5_addWish_85 rfl (lv_at hl 2 rfl) ?_
          refine lv_iload_n hx hb dX5_addWish_86 rfl (lv_at hl 3 rfl) ?_
          refine core_m (A1 := fun q => ow q = t) (grV (n := 3) (As := [.int r, .int x, .int d]) (rest := []) h0 hF (m_X7_add h0 (ow := ow) (t := t) (f := f) (k := k) hO (fun q h9 => hz q (by omega)) (by have h7 := c_68; rw [Int32.lt_iff_toInt_lt, nI_toInt (by omega)] at h7; have e7 : (8 : Int32).toInt = 8 := (by decide); omega) r x d) wm_X5_124 wo_X7_add ws_X7__X7_add wz_X7 wc_X7_add ⟨by decide, by decide, by decide +kernel⟩ rfl ⟨Nat.le_of_ble_eq_true rfl, Nat.le_of_ble_eq_true rfl⟩ (ci := 6) ⟨_, hT.1 3 _ rfl⟩ rfl hT hS hAo ⟨Nat.le_of_ble_eq_true rfl, Nat.le_of_ble_eq_true rfl⟩ hl.1 rfl (Nat.le_of_ble_eq_true rfl) dX5_addWish_87) hS (fun q (h8 : ow q = t) => (show ow q = t ∨ ow q = u from by omega)) (fun v H locs hq hz1 hk1 hS => ?_)
          obtain ⟨rfl, hT⟩ := hq
          have hT : Tw X ow t (skW X f (addW k r x d)) H := hT
          have hR := hR.keep hk1 (fun q h9 (h8 : ow q = t) => by omega)
          exact mm_iret hF hS dX5_addWish_90 (by have e9 : oWish k E r x d = ((nI (k.2 2) : Int32), addW k r x d, E) := (by first | (simp only [oWish, n_6, n_18, c_37, c_68, n_68, if_true, if_false, Bool.false_eq_true, reduceIte]; done) | (simp only [oWish, n_6, n_18, c_37, c_68, n_68, if_true, if_false, Bool.false_eq_true, reduceIte]; rfl)); exact ⟨by rw [e9], by rw [e9]; exact hT, by rw [e9]; exact hR⟩)
        · have n_68 := Int32.not_lt.mp c_68
          refine lv_aload hx hb dX5_addWish_71 (lv_at hl 4 rfl) ?_
          refine lv_iconst (v := 1) hx hb dX5_addWish_73 (by decide) ?_
          refine lv_bipush (v := 8) hx hb dX5_addWish_74 (by decide) ?_
          refine core_m (A1 := fun q => ow q = u) (grV (n := 2) (As := [.int 1, .int 8]) (rest := []) h0 hF (m_X3_because h0 (ow := ow) (u := u) (a := a) (E := E) 1 8) wm_X5_69 wo_X3_because ws_X3__X3_because wz_X3 wc_X3_because ⟨by decide, by decide, by decide +kernel⟩ rfl ⟨Nat.le_of_ble_eq_true rfl, Nat.le_of_ble_eq_true rfl⟩ (ci := 2) ⟨_, hR.1 0 _ rfl⟩ rfl hR hS hAo ⟨Nat.le_of_ble_eq_true rfl, Nat.le_of_ble_eq_true rfl⟩ hl.1 rfl (Nat.le_of_ble_eq_true rfl) dX5_addWish_76) hS (fun q (h8 : ow q = u) => (show ow q = t ∨ ow q = u from by omega)) (fun v H locs hq hz1 hk1 hS => ?_)
          obtain ⟨rfl, hR⟩ := hq
          have hT := hT.keep hk1 (fun q h9 (h8 : ow q = u) => by omega)
          have hR : Tw X ow u (reW a (rfN 1 8)) H := hR
          exact mm_iret hF hS dX5_addWish_79 (by have e9 : oWish k E r x d = (((-3) : Int32), k, rfN 1 8) := (by first | (simp only [oWish, n_6, n_18, c_37, c_68, n_68, if_true, if_false, Bool.false_eq_true, reduceIte]; done) | (simp only [oWish, n_6, n_18, c_37, c_68, n_68, if_true, if_false, Bool.false_eq_true, reduceIte]; rfl)); exact ⟨by rw [e9], by rw [e9]; exact hT, by rw [e9]; exact hR⟩)
      · refine lv_aload hx hb dX5_addWish_40 (lv_at hl 4 rfl) ?_
        refine lv_iconst (v := 4) hx hb dX5_addWish_42 (by decide) ?_
        refine lv_aload_n hx hb dX5_addWish_43 rfl (lv_at hl 0 rfl) ?_
        refine g_get (ci := 4) (v := .ref (f 2)) h0 hF inX5 hT.1 0 rfl rfl 1 (by decide) wf_X5_21 rfl rfl dX5_addWish_44 ?_
        refine g_get (ci := 3) (v := .ref (f 17)) h0 hF inX4 hT.1 2 rfl rfl 9 (by decide) wf_X5_104 rfl rfl dX5_addWish_47 ?_
        refine lv_iload_n hx hb dX5_addWish_50 rfl (lv_at hl 1 rfl) ?_
        refine g_iald hx hb hK hT.1 17 0 rfl rfl (tn r) (hr.1) (by omega) (by decide) dX5_addWish_51 ?_
        refine core_p (v := .int (bcI (k.1 13 (tn r)))) (grS (n := 1) (As := [.int (k.1 13 (tn r))]) (rest := [.int 4, .ref a]) h0 hF (m_J6_bitCount_0f7a4 h0 (k.1 13 (tn r))) wm_X5_93 wt_J6_bitCount_0f7a4 wz_J6 wc_J6_bitCount_0f7a4 ⟨by decide, by decide, by decide +kernel⟩ rfl ⟨Nat.le_of_ble_eq_true rfl, Nat.le_of_ble_eq_true rfl⟩ trivial hS hAo ⟨Nat.le_of_ble_eq_true rfl, Nat.le_of_ble_eq_true rfl⟩ hl.1 rfl (Nat.le_of_ble_eq_true rfl) dX5_addWish_52) ?_
        refine core_m (A1 := fun q => ow q = u) (grV (n := 2) (As := [.int 4, .int (bcI (k.1 13 (tn r)))]) (rest := []) h0 hF (m_X3_because h0 (ow := ow) (u := u) (a := a) (E := E) 4 (bcI (k.1 13 (tn r)))) wm_X5_69 wo_X3_because ws_X3__X3_because wz_X3 wc_X3_because ⟨by decide, by decide, by decide +kernel⟩ rfl ⟨Nat.le_of_ble_eq_true rfl, Nat.le_of_ble_eq_true rfl⟩ (ci := 2) ⟨_, hR.1 0 _ rfl⟩ rfl hR hS hAo ⟨Nat.le_of_ble_eq_true rfl, Nat.le_of_ble_eq_true rfl⟩ hl.1 rfl (Nat.le_of_ble_eq_true rfl) dX5_addWish_55) hS (fun q (h8 : ow q = u) => (show ow q = t ∨ ow q = u from by omega)) (fun v H locs hq hz1 hk1 hS => ?_)
        obtain ⟨rfl, hR⟩ := hq
        have hT := hT.keep hk1 (fun q h9 (h8 : ow q = u) => by omega)
        have hR : Tw X ow u (reW a (rfN 4 (bcI (k.1 13 (tn r))))) H := hR
        exact mm_iret hF hS dX5_addWish_58 (by have e9 : oWish k E r x d = (((-3) : Int32), k, rfN 4 (bcI (k.1 13 (tn r)))) := (by first | (simp only [oWish, n_6, n_18, c_37, if_true, if_false, Bool.false_eq_true, reduceIte]; done) | (simp only [oWish, n_6, n_18, c_37, if_true, if_false, Bool.false_eq_true, reduceIte]; rfl)); exact ⟨by rw [e9], by rw [e9]; exact hT, by rw [e9]; exact hR⟩)
    · have n_18 := bI_0.mp c_18
      refine lv_bipush (v := (-2)) hx hb dX5_addWish_21 (by decide) ?_
      exact mm_iret hF hS dX5_addWish_23 (by have e9 : oWish k E r x d = (((-2) : Int32), k, E) := (by first | (simp only [oWish, n_6, n_18, if_true, if_false, Bool.false_eq_true, reduceIte]; done) | (simp only [oWish, n_6, n_18, if_true, if_false, Bool.false_eq_true, reduceIte]; rfl)); exact ⟨by rw [e9], by rw [e9]; exact hT, by rw [e9]; exact hR⟩)
  · have n_6 := bI_0.mp c_6
    refine lv_iconst (v := (-1)) hx hb dX5_addWish_9 (by decide) ?_
    exact mm_iret hF hS dX5_addWish_10 (by have e9 : oWish k E r x d = (((-1) : Int32), k, E) := (by first | (simp only [oWish, n_6, if_true, if_false, Bool.false_eq_true, reduceIte]; done) | (simp only [oWish, n_6, if_true, if_false, Bool.false_eq_true, reduceIte]; rfl)); exact ⟨by rw [e9], by rw [e9]; exact hT, by rw [e9]; exact hR⟩)

set_option maxHeartbeats 4000000 in
set_option maxRecDepth 100000 in
theorem m_X5_payDebt {X : Cx} {l : Launch} (h0 : Init X) {ow : Nat → Nat} {t u a : Nat} {f : Nat → Nat} {k : Sk} {E : Nat → Int32} (hO : Ok k) (htu : t ≠ u) (hz : ∀ q, ow q = t ∨ ow q = u → X.z ≤ q) (r c1 : Int32) : MM X l yX5_payDebt cX5_payDebt 4 (some .int) 1 22 0 0 [.ref (f 0), .int r, .int c1, .ref a] (fun H => Tw X ow t (skW X f k) H ∧ Tw X ow u (reW a E) H) (fun v H => v = some (.int (oPay k E r c1).1) ∧ Tw X ow t (skW X f (oPay k E r c1).2.1) H ∧ Tw X ow u (reW a (oPay k E r c1).2.2) H) (fun q => ow q = t ∨ ow q = u) := by
  refine Met.mk (Bh := (fun H => Tw X ow t (skW X f k) H ∧ Tw X ow u (reW a E) H)) (by decide) (Nat.le_of_ble_eq_true rfl) ?_
  intro p e s m below meth c ls hF hB hl
  obtain ⟨hT, hR⟩ := hB
  have hl : lv_has ls 4 [(0, .ref (f 0)), (1, .int r), (2, .int c1), (3, .ref a)] := hl
  obtain ⟨hx, hb, hml, hr, hlk, hown, hG⟩ := id hF
  have hK := hG.K h0
  have hS : va_S (fun q => ow q = t ∨ ow q = u) s.heap s.heap [] := va_S.rf
  have hO1 := hO.1
  have hO2 := hO.2.1
  have hO3 := hO.2.2.1
  have hAo : ∀ q, q < X.z → ¬ (fun q => ow q = t ∨ ow q = u) q := fun q h9 (h8 : ow q = t ∨ ow q = u) => absurd (hz q h8) (by omega)
  refine lv_aload_n hx hb dX5_payDebt_0 rfl (lv_at hl 0 rfl) ?_
  refine g_get (ci := 4) (v := .ref (f 2)) h0 hF inX5 hT.1 0 rfl rfl 1 (by decide) wf_X5_21 rfl rfl dX5_payDebt_1 ?_
  refine lv_iload_n hx hb dX5_payDebt_4 rfl (lv_at hl 1 rfl) ?_
  refine core_p (v := .int (bI (hasB (k.2 1) r))) (grV (n := 1) (As := [.int r]) (rest := []) h0 hF (m_X4_has h0 (f := f) (k := k) hO  r) wm_X5_54 wo_X4_has ws_X4__X4_has wz_X4 wc_X4_has ⟨by decide, by decide, by decide +kernel⟩ rfl ⟨Nat.le_of_ble_eq_true rfl, Nat.le_of_ble_eq_true rfl⟩ (ci := 3) ⟨_, hT.1 2 _ rfl⟩ rfl hT.1 hS hAo ⟨Nat.le_of_ble_eq_true rfl, Nat.le_of_ble_eq_true rfl⟩ hl.1 rfl (Nat.le_of_ble_eq_true rfl) dX5_payDebt_5) ?_
  refine lv_if_ne (tgt := 13) hx hb dX5_payDebt_8 (by decide) (fun c_8 => ?_) (fun c_8 => ?_)
  · have n_8 := bI_n0.mp c_8
    have hr := hasB_tn n_8 (by omega)
    have hr2 := hr.2
    refine lv_iload_n hx hb dX5_payDebt_13 rfl (lv_at hl 2 rfl) ?_
    refine lv_iconst (v := 1) hx hb dX5_payDebt_14 (by decide) ?_
    refine lv_bipush (v := 99) hx hb dX5_payDebt_15 (by decide) ?_
    refine core_p (v := .int (bI (winB c1 1 99))) (grSN (n := 3) (As := [.int c1, .int 1, .int 99]) (rest := []) h0 hF (m_X9_isWithin h0 c1 1 99) wmn_X5_62 wt_X9_isWithin wz_X9 wc_X9_isWithin ⟨by decide, by decide, by decide +kernel⟩ rfl ⟨Nat.le_of_ble_eq_true rfl, Nat.le_of_ble_eq_true rfl⟩ trivial hS hAo ⟨Nat.le_of_ble_eq_true rfl, Nat.le_of_ble_eq_true rfl⟩ hl.1 rfl (Nat.le_of_ble_eq_true rfl) dX5_payDebt_17) ?_
    refine lv_if_ne (tgt := 26) hx hb dX5_payDebt_20 (by decide) (fun c_20 => ?_) (fun c_20 => ?_)
    · have n_20 := bI_n0.mp c_20
      refine lv_aload_n hx hb dX5_payDebt_26 rfl (lv_at hl 0 rfl) ?_
      refine g_get (ci := 4) (v := .ref (f 2)) h0 hF inX5 hT.1 0 rfl rfl 1 (by decide) wf_X5_21 rfl rfl dX5_payDebt_27 ?_
      refine g_get (ci := 3) (v := .ref (f 9)) h0 hF inX4 hT.1 2 rfl rfl 1 (by decide) wf_X5_120 rfl rfl dX5_payDebt_30 ?_
      refine lv_iload_n hx hb dX5_payDebt_33 rfl (lv_at hl 1 rfl) ?_
      refine g_iald hx hb hK hT.1 9 0 rfl rfl (tn r) (hr.1) (by omega) (by decide) dX5_payDebt_34 ?_
      refine lv_iload_n hx hb dX5_payDebt_35 rfl (lv_at hl 2 rfl) ?_
      refine lv_icmp_ge (tgt := 57) hx hb dX5_payDebt_36 (by decide) (fun c_36 => ?_) (fun c_36 => ?_)
      · have n_36 := Int32.not_lt.mpr c_36
        refine lv_aload_n hx hb dX5_payDebt_57 rfl (lv_at hl 0 rfl) ?_
        refine g_get (ci := 4) (v := .ref (f 2)) h0 hF inX5 hT.1 0 rfl rfl 1 (by decide) wf_X5_21 rfl rfl dX5_payDebt_58 ?_
        refine g_get (ci := 3) (v := .ref (f 10)) h0 hF inX4 hT.1 2 rfl rfl 2 (by decide) wf_X5_127 rfl rfl dX5_payDebt_61 ?_
        refine lv_iload_n hx hb dX5_payDebt_64 rfl (lv_at hl 1 rfl) ?_
        refine g_iald hx hb hK hT.1 10 0 rfl rfl (tn r) (hr.1) (by omega) (by decide) dX5_payDebt_65 ?_
        refine lv_iload_n hx hb dX5_payDebt_66 rfl (lv_at hl 2 rfl) ?_
        refine lv_icmp_ge (tgt := 86) hx hb dX5_payDebt_67 (by decide) (fun c_67 => ?_) (fun c_67 => ?_)
        · have n_67 := Int32.not_lt.mpr c_67
          refine lv_aload_n hx hb dX5_payDebt_86 rfl (lv_at hl 0 rfl) ?_
          refine g_get (ci := 4) (v := .ref (f 2)) h0 hF inX5 hT.1 0 rfl rfl 1 (by decide) wf_X5_21 rfl rfl dX5_payDebt_87 ?_
          refine g_get (ci := 3) (v := .ref (f 9)) h0 hF inX4 hT.1 2 rfl rfl 1 (by decide) wf_X5_120 rfl rfl dX5_payDebt_90 ?_
          refine lv_iload_n hx hb dX5_payDebt_93 rfl (lv_at hl 1 rfl) ?_
          refine lv_dup2_11 hx hb dX5_payDebt_94 rfl rfl ?_
          refine g_iald hx hb hK hT.1 9 0 rfl rfl (tn r) (hr.1) (by omega) (by decide) dX5_payDebt_95 ?_
          refine lv_iload_n hx hb dX5_payDebt_96 rfl (lv_at hl 2 rfl) ?_
          refine lv_isub hx hb dX5_payDebt_97 ?_
          have htg := hT.tag 9 rfl
          refine g_iast hx hb hK hT hS (Or.inl htg) 9 0 rfl rfl (tn r) (hr.1) (by omega) (by decide) dX5_payDebt_98 (fun H locs oq hT' hS => ?_)
          have hR := hR.fr1 oq (by rw [htg]; omega)
          have hT : Tw X ow t (skW X f (sU k 5 (tn r) ((k.1 5 (tn r)) - c1))) H := hT'.to (skS_5 X f k (tn r) ((k.1 5 (tn r)) - c1))
          refine lv_aload_n hx hb dX5_payDebt_99 rfl (lv_at hl 0 rfl) ?_
          refine g_get (ci := 4) (v := .ref (f 2)) h0 hF inX5 hT.1 0 rfl rfl 1 (by decide) wf_X5_21 rfl rfl dX5_payDebt_100 ?_
          refine g_get (ci := 3) (v := .ref (f 13)) h0 hF inX4 hT.1 2 rfl rfl 5 (by decide) wf_X5_130 rfl rfl dX5_payDebt_103 ?_
          refine lv_iload_n hx hb dX5_payDebt_106 rfl (lv_at hl 1 rfl) ?_
          refine lv_dup2_11 hx hb dX5_payDebt_107 rfl rfl ?_
          refine g_iald hx hb hK hT.1 13 0 rfl rfl (tn r) (hr.1) (by omega) (by decide) dX5_payDebt_108 ?_
          refine lv_iload_n hx hb dX5_payDebt_109 rfl (lv_at hl 2 rfl) ?_
          refine lv_iadd hx hb dX5_payDebt_110 ?_
          have htg := hT.tag 13 rfl
          refine g_iast hx hb hK hT hS (Or.inl htg) 13 0 rfl rfl (tn r) (hr.1) (by omega) (by decide) dX5_payDebt_111 (fun H locs oq hT' hS => ?_)
          have hR := hR.fr1 oq (by rw [htg]; omega)
          have hT : Tw X ow t (skW X f (sU (sU k 5 (tn r) ((k.1 5 (tn r)) - c1)) 9 (tn r) ((k.1 9 (tn r)) + c1))) H := hT'.to (skS_9 X f (sU k 5 (tn r) ((k.1 5 (tn r)) - c1)) (tn r) ((k.1 9 (tn r)) + c1))
          refine lv_aload_n hx hb dX5_payDebt_112 rfl (lv_at hl 0 rfl) ?_
          refine g_get (ci := 4) (v := .ref (f 2)) h0 hF inX5 hT.1 0 rfl rfl 1 (by decide) wf_X5_21 rfl rfl dX5_payDebt_113 ?_
          refine g_get (ci := 3) (v := .ref (f 10)) h0 hF inX4 hT.1 2 rfl rfl 2 (by decide) wf_X5_127 rfl rfl dX5_payDebt_116 ?_
          refine lv_iload_n hx hb dX5_payDebt_119 rfl (lv_at hl 1 rfl) ?_
          refine lv_dup2_11 hx hb dX5_payDebt_120 rfl rfl ?_
          refine g_iald hx hb hK hT.1 10 0 rfl rfl (tn r) (hr.1) (by omega) (by decide) dX5_payDebt_121 ?_
          refine lv_iload_n hx hb dX5_payDebt_122 rfl (lv_at hl 2 rfl) ?_
          refine lv_isub hx hb dX5_payDebt_123 ?_
          have htg := hT.tag 10 rfl
          refine g_iast hx hb hK hT hS (Or.inl htg) 10 0 rfl rfl (tn r) (hr.1) (by omega) (by decide) dX5_payDebt_124 (fun H locs oq hT' hS => ?_)
          have hR := hR.fr1 oq (by rw [htg]; omega)
          have hT : Tw X ow t (skW X f (sU (sU (sU k 5 (tn r) ((k.1 5 (tn r)) - c1)) 9 (tn r) ((k.1 9 (tn r)) + c1)) 6 (tn r) ((k.1 6 (tn r)) - c1))) H := hT'.to (skS_6 X f (sU (sU k 5 (tn r) ((k.1 5 (tn r)) - c1)) 9 (tn r) ((k.1 9 (tn r)) + c1)) (tn r) ((k.1 6 (tn r)) - c1))
          refine lv_aload_n hx hb dX5_payDebt_125 rfl (lv_at hl 0 rfl) ?_
          refine g_get (ci := 4) (v := .ref (f 2)) h0 hF inX5 hT.1 0 rfl rfl 1 (by decide) wf_X5_21 rfl rfl dX5_payDebt_126 ?_
          refine g_get (ci := 3) (v := .ref (f 10)) h0 hF inX4 hT.1 2 rfl rfl 2 (by decide) wf_X5_127 rfl rfl dX5_payDebt_129 ?_
          refine lv_iload_n hx hb dX5_payDebt_132 rfl (lv_at hl 1 rfl) ?_
          refine g_iald hx hb hK hT.1 10 0 rfl rfl (tn r) (hr.1) (by omega) (by decide) dX5_payDebt_133 ?_
          refine lv_topE (y := k.1 6 (tn r) - c1) (sU_self _ _ _ _) ?_
          exact mm_iret hF hS dX5_payDebt_134 (by have e9 : oPay k E r c1 = ((k.1 6 (tn r) - c1 : Int32), sU (sU (sU k 5 (tn r) ((k.1 5 (tn r)) - c1)) 9 (tn r) ((k.1 9 (tn r)) + c1)) 6 (tn r) ((k.1 6 (tn r)) - c1), E) := (by first | (simp only [oPay, n_8, n_20, c_36, n_36, c_67, n_67, if_true, if_false, Bool.false_eq_true, reduceIte]; done) | (simp only [oPay, n_8, n_20, c_36, n_36, c_67, n_67, if_true, if_false, Bool.false_eq_true, reduceIte]; rfl)); exact ⟨by rw [e9], by rw [e9]; exact hT, by rw [e9]; exact hR⟩)
        · have n_67 := Int32.not_le.mp c_67
          refine lv_aload_n hx hb dX5_payDebt_70 rfl (lv_at hl 3 rfl) ?_
          refine lv_bipush (v := 8) hx hb dX5_payDebt_71 (by decide) ?_
          refine lv_aload_n hx hb dX5_payDebt_73 rfl (lv_at hl 0 rfl) ?_
          refine g_get (ci := 4) (v := .ref (f 2)) h0 hF inX5 hT.1 0 rfl rfl 1 (by decide) wf_X5_21 rfl rfl dX5_payDebt_74 ?_
          refine g_get (ci := 3) (v := .ref (f 10)) h0 hF inX4 hT.1 2 rfl rfl 2 (by decide) wf_X5_127 rfl rfl dX5_payDebt_77 ?_
          refine lv_iload_n hx hb dX5_payDebt_80 rfl (lv_at hl 1 rfl) ?_
          refine g_iald hx hb hK hT.1 10 0 rfl rfl (tn r) (hr.1) (by omega) (by decide) dX5_payDebt_81 ?_
          refine core_m (A1 := fun q => ow q = u) (grV (n := 2) (As := [.int 8, .int (k.1 6 (tn r))]) (rest := []) h0 hF (m_X3_because h0 (ow := ow) (u := u) (a := a) (E := E) 8 (k.1 6 (tn r))) wm_X5_69 wo_X3_because ws_X3__X3_because wz_X3 wc_X3_because ⟨by decide, by decide, by decide +kernel⟩ rfl ⟨Nat.le_of_ble_eq_true rfl, Nat.le_of_ble_eq_true rfl⟩ (ci := 2) ⟨_, hR.1 0 _ rfl⟩ rfl hR hS hAo ⟨Nat.le_of_ble_eq_true rfl, Nat.le_of_ble_eq_true rfl⟩ hl.1 rfl (Nat.le_of_ble_eq_true rfl) dX5_payDebt_82) hS (fun q (h8 : ow q = u) => (show ow q = t ∨ ow q = u from by omega)) (fun v H locs hq hz1 hk1 hS => ?_)
          obtain ⟨rfl, hR⟩ := hq
          have hT := hT.keep hk1 (fun q h9 (h8 : ow q = u) => by omega)
          have hR : Tw X ow u (reW a (rfN 8 (k.1 6 (tn r)))) H := hR
          exact mm_iret hF hS dX5_payDebt_85 (by have e9 : oPay k E r c1 = (((-3) : Int32), k, rfN 8 (k.1 6 (tn r))) := (by first | (simp only [oPay, n_8, n_20, c_36, n_36, c_67, n_67, if_true, if_false, Bool.false_eq_true, reduceIte]; done) | (simp only [oPay, n_8, n_20, c_36, n_36, c_67, n_67, if_true, if_false, Bool.false_eq_true, reduceIte]; rfl)); exact ⟨by rw [e9], by rw [e9]; exact hT, by rw [e9]; exact hR⟩)
      · have n_36 := Int32.not_le.mp c_36
        refine lv_aload_n hx hb dX5_payDebt_39 rfl (lv_at hl 3 rfl) ?_
        refine lv_bipush (v := 6) hx hb dX5_payDebt_40 (by decide) ?_
        refine lv_iload_n hx hb dX5_payDebt_42 rfl (lv_at hl 2 rfl) ?_
        refine lv_aload_n hx hb dX5_payDebt_43 rfl (lv_at hl 0 rfl) ?_
        refine g_get (ci := 4) (v := .ref (f 2)) h0 hF inX5 hT.1 0 rfl rfl 1 (by decide) wf_X5_21 rfl rfl dX5_payDebt_44 ?_
        refine g_get (ci := 3) (v := .ref (f 9)) h0 hF inX4 hT.1 2 rfl rfl 1 (by decide) wf_X5_120 rfl rfl dX5_payDebt_47 ?_
        refine lv_iload_n hx hb dX5_payDebt_50 rfl (lv_at hl 1 rfl) ?_
        refine g_iald hx hb hK hT.1 9 0 rfl rfl (tn r) (hr.1) (by omega) (by decide) dX5_payDebt_51 ?_
        refine lv_isub hx hb dX5_payDebt_52 ?_
        refine core_m (A1 := fun q => ow q = u) (grV (n := 2) (As := [.int 6, .int (c1 - (k.1 5 (tn r)))]) (rest := []) h0 hF (m_X3_because h0 (ow := ow) (u := u) (a := a) (E := E) 6 (c1 - (k.1 5 (tn r)))) wm_X5_69 wo_X3_because ws_X3__X3_because wz_X3 wc_X3_because ⟨by decide, by decide, by decide +kernel⟩ rfl ⟨Nat.le_of_ble_eq_true rfl, Nat.le_of_ble_eq_true rfl⟩ (ci := 2) ⟨_, hR.1 0 _ rfl⟩ rfl hR hS hAo ⟨Nat.le_of_ble_eq_true rfl, Nat.le_of_ble_eq_true rfl⟩ hl.1 rfl (Nat.le_of_ble_eq_true rfl) dX5_payDebt_53) hS (fun q (h8 : ow q = u) => (show ow q = t ∨ ow q = u from by omega)) (fun v H locs hq hz1 hk1 hS => ?_)
        obtain ⟨rfl, hR⟩ := hq
        have hT := hT.keep hk1 (fun q h9 (h8 : ow q = u) => by omega)
        have hR : Tw X ow u (reW a (rfN 6 (c1 - (k.1 5 (tn r))))) H := hR
        exact mm_iret hF hS dX5_payDebt_56 (by have e9 : oPay k E r c1 = (((-3) : Int32), k, rfN 6 (c1 - (k.1 5 (tn r)))) := (by first | (simp only [oPay, n_8, n_20, c_36, n_36, if_true, if_false, Bool.false_eq_true, reduceIte]; done) | (simp only [oPay, n_8, n_20, c_36, n_36, if_true, if_false, Bool.false_eq_true, reduceIte]; rfl)); exact ⟨by rw [e9], by rw [e9]; exact hT, by rw [e9]; exact hR⟩)
    · have n_20 := bI_0.mp c_20
      refine lv_bipush (v := (-2)) hx hb dX5_payDebt_23 (by decide) ?_
      exact mm_iret hF hS dX5_payDebt_25 (by have e9 : oPay k E r c1 = (((-2) : Int32), k, E) := (by first | (simp only [oPay, n_8, n_20, if_true, if_false, Bool.false_eq_true, reduceIte]; done) | (simp only [oPay, n_8, n_20, if_true, if_false, Bool.false_eq_true, reduceIte]; rfl)); exact ⟨by rw [e9], by rw [e9]; exact hT, by rw [e9]; exact hR⟩)
  · have n_8 := bI_0.mp c_8
    refine lv_iconst (v := (-1)) hx hb dX5_payDebt_11 (by decide) ?_
    exact mm_iret hF hS dX5_payDebt_12 (by have e9 : oPay k E r c1 = (((-1) : Int32), k, E) := (by first | (simp only [oPay, n_8, if_true, if_false, Bool.false_eq_true, reduceIte]; done) | (simp only [oPay, n_8, if_true, if_false, Bool.false_eq_true, reduceIte]; rfl)); exact ⟨by rw [e9], by rw [e9]; exact hT, by rw [e9]; exact hR⟩)

set_option maxHeartbeats 4000000 in
set_option maxRecDepth 100000 in
theorem m_X5_poundWishes {X : Cx} {l : Launch} (h0 : Init X) {ow : Nat → Nat} {t u a : Nat} {f : Nat → Nat} {k : Sk} {E : Nat → Int32} (hO : Ok k) (htu : t ≠ u) (hz : ∀ q, ow q = t ∨ ow q = u → X.z ≤ q) (r : Int32) : MM X l yX5_poundWishes cX5_poundWishes 4 (some .int) 2 45 0 0 [.ref (f 0), .int r, .ref a] (fun H => Tw X ow t (skW X f k) H ∧ Tw X ow u (reW a E) H) (fun v H => v = some (.int (oPound k E r).1) ∧ Tw X ow t (skW X f (oPound k E r).2.1) H ∧ Tw X ow u (reW a (oPound k E r).2.2) H) (fun q => ow q = t ∨ ow q = u) := by
  refine Met.mk (Bh := (fun H => Tw X ow t (skW X f k) H ∧ Tw X ow u (reW a E) H)) (by decide) (Nat.le_of_ble_eq_true rfl) ?_
  intro p e s m below meth c ls hF hB hl
  obtain ⟨hT, hR⟩ := hB
  have hl : lv_has ls 4 [(0, .ref (f 0)), (1, .int r), (2, .ref a)] := hl
  obtain ⟨hx, hb, hml, hr, hlk, hown, hG⟩ := id hF
  have hK := hG.K h0
  have hS : va_S (fun q => ow q = t ∨ ow q = u) s.heap s.heap [] := va_S.rf
  have hO1 := hO.1
  have hO2 := hO.2.1
  have hO3 := hO.2.2.1
  have hAo : ∀ q, q < X.z → ¬ (fun q => ow q = t ∨ ow q = u) q := fun q h9 (h8 : ow q = t ∨ ow q = u) => absurd (hz q h8) (by omega)
  refine lv_aload_n hx hb dX5_poundWishes_0 rfl (lv_at hl 0 rfl) ?_
  refine g_get (ci := 4) (v := .ref (f 2)) h0 hF inX5 hT.1 0 rfl rfl 1 (by decide) wf_X5_21 rfl rfl dX5_poundWishes_1 ?_
  refine lv_iload_n hx hb dX5_poundWishes_4 rfl (lv_at hl 1 rfl) ?_
  refine core_p (v := .int (bI (hasB (k.2 1) r))) (grV (n := 1) (As := [.int r]) (rest := []) h0 hF (m_X4_has h0 (f := f) (k := k) hO  r) wm_X5_54 wo_X4_has ws_X4__X4_has wz_X4 wc_X4_has ⟨by decide, by decide, by decide +kernel⟩ rfl ⟨Nat.le_of_ble_eq_true rfl, Nat.le_of_ble_eq_true rfl⟩ (ci := 3) ⟨_, hT.1 2 _ rfl⟩ rfl hT.1 hS hAo ⟨Nat.le_of_ble_eq_true rfl, Nat.le_of_ble_eq_true rfl⟩ hl.1 rfl (Nat.le_of_ble_eq_true rfl) dX5_poundWishes_5) ?_
  refine lv_if_ne (tgt := 13) hx hb dX5_poundWishes_8 (by decide) (fun c_8 => ?_) (fun c_8 => ?_)
  · have n_8 := bI_n0.mp c_8
    have hr := hasB_tn n_8 (by omega)
    have hr2 := hr.2
    refine lv_aload_n hx hb dX5_poundWishes_13 rfl (lv_at hl 0 rfl) ?_
    refine g_get (ci := 4) (v := .ref (f 2)) h0 hF inX5 hT.1 0 rfl rfl 1 (by decide) wf_X5_21 rfl rfl dX5_poundWishes_14 ?_
    refine g_get (ci := 3) (v := .ref (f 11)) h0 hF inX4 hT.1 2 rfl rfl 3 (by decide) wf_X5_133 rfl rfl dX5_poundWishes_17 ?_
    refine lv_iload_n hx hb dX5_poundWishes_20 rfl (lv_at hl 1 rfl) ?_
    refine g_iald hx hb hK hT.1 11 0 rfl rfl (tn r) (hr.1) (by omega) (by decide) dX5_poundWishes_21 ?_
    refine lv_if_le (tgt := 41) hx hb dX5_poundWishes_22 (by decide) (fun c_22 => ?_) (fun c_22 => ?_)
    · have n_22 := Int32.not_lt.mpr c_22
      refine lv_aload_n hx hb dX5_poundWishes_41 rfl (lv_at hl 0 rfl) ?_
      refine g_get (ci := 4) (v := .ref (f 2)) h0 hF inX5 hT.1 0 rfl rfl 1 (by decide) wf_X5_21 rfl rfl dX5_poundWishes_42 ?_
      refine g_get (ci := 3) (v := .ref (f 10)) h0 hF inX4 hT.1 2 rfl rfl 2 (by decide) wf_X5_127 rfl rfl dX5_poundWishes_45 ?_
      refine lv_iload_n hx hb dX5_poundWishes_48 rfl (lv_at hl 1 rfl) ?_
      refine g_iald hx hb hK hT.1 10 0 rfl rfl (tn r) (hr.1) (by omega) (by decide) dX5_poundWishes_49 ?_
      refine lv_bipush (v := 10) hx hb dX5_poundWishes_50 (by decide) ?_
      refine lv_icmp_ge (tgt := 71) hx hb dX5_poundWishes_52 (by decide) (fun c_52 => ?_) (fun c_52 => ?_)
      · have n_52 := Int32.not_lt.mpr c_52
        refine lv_aload_n hx hb dX5_poundWishes_71 rfl (lv_at hl 0 rfl) ?_
        refine g_get (ci := 4) (v := .ref (f 3)) h0 hF inX5 hT.1 0 rfl rfl 2 (by decide) wf_X5_28 rfl rfl dX5_poundWishes_72 ?_
        refine lv_iload_n hx hb dX5_poundWishes_75 rfl (lv_at hl 1 rfl) ?_
        refine core_m (A1 := fun q => ow q = t) (grV (n := 1) (As := [.int r]) (rest := []) h0 hF (m_X7_impoundAllOf h0 (ow := ow) (t := t) (f := f) (k := k) hO (fun q h9 => hz q (by omega))  r) wm_X5_136 wo_X7_impoundAllOf ws_X7__X7_impoundAllOf wz_X7 wc_X7_impoundAllOf ⟨by decide, by decide, by decide +kernel⟩ rfl ⟨Nat.le_of_ble_eq_true rfl, Nat.le_of_ble_eq_true rfl⟩ (ci := 6) ⟨_, hT.1 3 _ rfl⟩ rfl hT hS hAo ⟨Nat.le_of_ble_eq_true rfl, Nat.le_of_ble_eq_true rfl⟩ hl.1 rfl (Nat.le_of_ble_eq_true rfl) dX5_poundWishes_76) hS (fun q (h8 : ow q = t) => (show ow q = t ∨ ow q = u from by omega)) (fun v H locs hq hz1 hk1 hS => ?_)
        obtain ⟨rfl, hT⟩ := hq
        have hT : Tw X ow t (skW X f (iA k r (k.2 2))) H := hT
        have hR := hR.keep hk1 (fun q h9 (h8 : ow q = t) => by omega)
        refine lv_istore_n (lv' := [(3, .int (nI (tA k r (k.2 2)))), (0, .ref (f 0)), (1, .int r), (2, .ref a)]) hx hb dX5_poundWishes_79 rfl hl (by decide) rfl (fun ls hl => ?_)
        refine lv_iload_n hx hb dX5_poundWishes_80 rfl (lv_at hl 0 rfl) ?_
        refine lv_if_le (tgt := 88) hx hb dX5_poundWishes_81 (by decide) (fun c_81 => ?_) (fun c_81 => ?_)
        · have n_81 := Int32.not_lt.mpr c_81
          refine lv_aload_n hx hb dX5_poundWishes_88 rfl (lv_at hl 3 rfl) ?_
          refine lv_bipush (v := 11) hx hb dX5_poundWishes_89 (by decide) ?_
          refine lv_aload_n hx hb dX5_poundWishes_91 rfl (lv_at hl 1 rfl) ?_
          refine g_get (ci := 4) (v := .ref (f 3)) h0 hF inX5 hT.1 0 rfl rfl 2 (by decide) wf_X5_28 rfl rfl dX5_poundWishes_92 ?_
          refine lv_iload_n hx hb dX5_poundWishes_95 rfl (lv_at hl 2 rfl) ?_
          refine core_p (v := .int (nI (cN (fun z => decide ((iA k r (k.2 2)).1 14 z = r)) ((iA k r (k.2 2)).2 2)))) (grV (n := 1) (As := [.int r]) (rest := [.int 11, .ref a]) h0 hF (m_X7_countOf h0 (f := f) (k := (iA k r (k.2 2))) (Ok_iA hO r _)  r) wm_X5_139 wo_X7_countOf ws_X7__X7_countOf wz_X7 wc_X7_countOf ⟨by decide, by decide, by decide +kernel⟩ rfl ⟨Nat.le_of_ble_eq_true rfl, Nat.le_of_ble_eq_true rfl⟩ (ci := 6) ⟨_, hT.1 3 _ rfl⟩ rfl hT.1 hS hAo ⟨Nat.le_of_ble_eq_true rfl, Nat.le_of_ble_eq_true rfl⟩ hl.1 rfl (Nat.le_of_ble_eq_true rfl) dX5_poundWishes_96) ?_
          refine core_m (A1 := fun q => ow q = u) (grV (n := 2) (As := [.int 11, .int (nI (cN (fun z => decide ((iA k r (k.2 2)).1 14 z = r)) ((iA k r (k.2 2)).2 2)))]) (rest := []) h0 hF (m_X3_because h0 (ow := ow) (u := u) (a := a) (E := E) 11 (nI (cN (fun z => decide ((iA k r (k.2 2)).1 14 z = r)) ((iA k r (k.2 2)).2 2)))) wm_X5_69 wo_X3_because ws_X3__X3_because wz_X3 wc_X3_because ⟨by decide, by decide, by decide +kernel⟩ rfl ⟨Nat.le_of_ble_eq_true rfl, Nat.le_of_ble_eq_true rfl⟩ (ci := 2) ⟨_, hR.1 0 _ rfl⟩ rfl hR hS hAo ⟨Nat.le_of_ble_eq_true rfl, Nat.le_of_ble_eq_true rfl⟩ hl.1 rfl (Nat.le_of_ble_eq_true rfl) dX5_poundWishes_99) hS (fun q (h8 : ow q = u) => (show ow q = t ∨ ow q = u from by omega)) (fun v H locs hq hz1 hk1 hS => ?_)
          obtain ⟨rfl, hR⟩ := hq
          have hT := hT.keep hk1 (fun q h9 (h8 : ow q = u) => by omega)
          have hR : Tw X ow u (reW a (rfN 11 (nI (cN (fun z => decide ((iA k r (k.2 2)).1 14 z = r)) ((iA k r (k.2 2)).2 2))))) H := hR
          exact mm_iret hF hS dX5_poundWishes_102 (by have e9 : oPound k E r = (((-3) : Int32), iA k r (k.2 2), rfN 11 (nI (cN (fun z => decide ((iA k r (k.2 2)).1 14 z = r)) ((iA k r (k.2 2)).2 2)))) := (by first | (simp only [oPound, n_8, c_22, n_22, c_52, n_52, c_81, n_81, if_true, if_false, Bool.false_eq_true, reduceIte]; done) | (simp only [oPound, n_8, c_22, n_22, c_52, n_52, c_81, n_81, if_true, if_false, Bool.false_eq_true, reduceIte]; rfl)); exact ⟨by rw [e9], by rw [e9]; exact hT, by rw [e9]; exact hR⟩)
        · have n_81 := Int32.not_le.mp c_81
          refine lv_iload_n hx hb dX5_poundWishes_84 rfl (lv_at hl 0 rfl) ?_
          refine lv_goto (tgt := 102) hx hb dX5_poundWishes_85 (by decide) ?_
          exact mm_iret hF hS dX5_poundWishes_102 (by have e9 : oPound k E r = ((nI (tA k r (k.2 2)) : Int32), iA k r (k.2 2), E) := (by first | (simp only [oPound, n_8, c_22, n_22, c_52, n_52, c_81, n_81, if_true, if_false, Bool.false_eq_true, reduceIte]; done) | (simp only [oPound, n_8, c_22, n_22, c_52, n_52, c_81, n_81, if_true, if_false, Bool.false_eq_true, reduceIte]; rfl)); exact ⟨by rw [e9], by rw [e9]; exact hT, by rw [e9]; exact hR⟩)
      · have n_52 := Int32.not_le.mp c_52
        refine lv_aload_n hx hb dX5_poundWishes_55 rfl (lv_at hl 2 rfl) ?_
        refine lv_bipush (v := 10) hx hb dX5_poundWishes_56 (by decide) ?_
        refine lv_aload_n hx hb dX5_poundWishes_58 rfl (lv_at hl 0 rfl) ?_
        refine g_get (ci := 4) (v := .ref (f 2)) h0 hF inX5 hT.1 0 rfl rfl 1 (by decide) wf_X5_21 rfl rfl dX5_poundWishes_59 ?_
        refine g_get (ci := 3) (v := .ref (f 10)) h0 hF inX4 hT.1 2 rfl rfl 2 (by decide) wf_X5_127 rfl rfl dX5_poundWishes_62 ?_
        refine lv_iload_n hx hb dX5_poundWishes_65 rfl (lv_at hl 1 rfl) ?_
        refine g_iald hx hb hK hT.1 10 0 rfl rfl (tn r) (hr.1) (by omega) (by decide) dX5_poundWishes_66 ?_
        refine core_m (A1 := fun q => ow q = u) (grV (n := 2) (As := [.int 10, .int (k.1 6 (tn r))]) (rest := []) h0 hF (m_X3_because h0 (ow := ow) (u := u) (a := a) (E := E) 10 (k.1 6 (tn r))) wm_X5_69 wo_X3_because ws_X3__X3_because wz_X3 wc_X3_because ⟨by decide, by decide, by decide +kernel⟩ rfl ⟨Nat.le_of_ble_eq_true rfl, Nat.le_of_ble_eq_true rfl⟩ (ci := 2) ⟨_, hR.1 0 _ rfl⟩ rfl hR hS hAo ⟨Nat.le_of_ble_eq_true rfl, Nat.le_of_ble_eq_true rfl⟩ hl.1 rfl (Nat.le_of_ble_eq_true rfl) dX5_poundWishes_67) hS (fun q (h8 : ow q = u) => (show ow q = t ∨ ow q = u from by omega)) (fun v H locs hq hz1 hk1 hS => ?_)
        obtain ⟨rfl, hR⟩ := hq
        have hT := hT.keep hk1 (fun q h9 (h8 : ow q = u) => by omega)
        have hR : Tw X ow u (reW a (rfN 10 (k.1 6 (tn r)))) H := hR
        exact mm_iret hF hS dX5_poundWishes_70 (by have e9 : oPound k E r = (((-3) : Int32), k, rfN 10 (k.1 6 (tn r))) := (by first | (simp only [oPound, n_8, c_22, n_22, c_52, n_52, if_true, if_false, Bool.false_eq_true, reduceIte]; done) | (simp only [oPound, n_8, c_22, n_22, c_52, n_52, if_true, if_false, Bool.false_eq_true, reduceIte]; rfl)); exact ⟨by rw [e9], by rw [e9]; exact hT, by rw [e9]; exact hR⟩)
    · have n_22 := Int32.not_le.mp c_22
      refine lv_aload_n hx hb dX5_poundWishes_25 rfl (lv_at hl 2 rfl) ?_
      refine lv_bipush (v := 9) hx hb dX5_poundWishes_26 (by decide) ?_
      refine lv_aload_n hx hb dX5_poundWishes_28 rfl (lv_at hl 0 rfl) ?_
      refine g_get (ci := 4) (v := .ref (f 2)) h0 hF inX5 hT.1 0 rfl rfl 1 (by decide) wf_X5_21 rfl rfl dX5_poundWishes_29 ?_
      refine g_get (ci := 3) (v := .ref (f 11)) h0 hF inX4 hT.1 2 rfl rfl 3 (by decide) wf_X5_133 rfl rfl dX5_poundWishes_32 ?_
      refine lv_iload_n hx hb dX5_poundWishes_35 rfl (lv_at hl 1 rfl) ?_
      refine g_iald hx hb hK hT.1 11 0 rfl rfl (tn r) (hr.1) (by omega) (by decide) dX5_poundWishes_36 ?_
      refine core_m (A1 := fun q => ow q = u) (grV (n := 2) (As := [.int 9, .int (k.1 7 (tn r))]) (rest := []) h0 hF (m_X3_because h0 (ow := ow) (u := u) (a := a) (E := E) 9 (k.1 7 (tn r))) wm_X5_69 wo_X3_because ws_X3__X3_because wz_X3 wc_X3_because ⟨by decide, by decide, by decide +kernel⟩ rfl ⟨Nat.le_of_ble_eq_true rfl, Nat.le_of_ble_eq_true rfl⟩ (ci := 2) ⟨_, hR.1 0 _ rfl⟩ rfl hR hS hAo ⟨Nat.le_of_ble_eq_true rfl, Nat.le_of_ble_eq_true rfl⟩ hl.1 rfl (Nat.le_of_ble_eq_true rfl) dX5_poundWishes_37) hS (fun q (h8 : ow q = u) => (show ow q = t ∨ ow q = u from by omega)) (fun v H locs hq hz1 hk1 hS => ?_)
      obtain ⟨rfl, hR⟩ := hq
      have hT := hT.keep hk1 (fun q h9 (h8 : ow q = u) => by omega)
      have hR : Tw X ow u (reW a (rfN 9 (k.1 7 (tn r)))) H := hR
      exact mm_iret hF hS dX5_poundWishes_40 (by have e9 : oPound k E r = (((-3) : Int32), k, rfN 9 (k.1 7 (tn r))) := (by first | (simp only [oPound, n_8, c_22, n_22, if_true, if_false, Bool.false_eq_true, reduceIte]; done) | (simp only [oPound, n_8, c_22, n_22, if_true, if_false, Bool.false_eq_true, reduceIte]; rfl)); exact ⟨by rw [e9], by rw [e9]; exact hT, by rw [e9]; exact hR⟩)
  · have n_8 := bI_0.mp c_8
    refine lv_iconst (v := (-1)) hx hb dX5_poundWishes_11 (by decide) ?_
    exact mm_iret hF hS dX5_poundWishes_12 (by have e9 : oPound k E r = (((-1) : Int32), k, E) := (by first | (simp only [oPound, n_8, if_true, if_false, Bool.false_eq_true, reduceIte]; done) | (simp only [oPound, n_8, if_true, if_false, Bool.false_eq_true, reduceIte]; rfl)); exact ⟨by rw [e9], by rw [e9]; exact hT, by rw [e9]; exact hR⟩)

set_option maxHeartbeats 4000000 in
set_option maxRecDepth 100000 in
theorem m_X5_redeemWish {X : Cx} {l : Launch} (h0 : Init X) {ow : Nat → Nat} {t u a : Nat} {f : Nat → Nat} {k : Sk} {E : Nat → Int32} (hO : Ok k) (htu : t ≠ u) (hz : ∀ q, ow q = t ∨ ow q = u → X.z ≤ q) (x : Int32) : MM X l yX5_redeemWish cX5_redeemWish 5 (some .int) 1 22 0 0 [.ref (f 0), .int x, .ref a] (fun H => Tw X ow t (skW X f k) H ∧ Tw X ow u (reW a E) H) (fun v H => v = some (.int (oRedeem k E x).1) ∧ Tw X ow t (skW X f (oRedeem k E x).2.1) H ∧ Tw X ow u (reW a (oRedeem k E x).2.2) H) (fun q => ow q = t ∨ ow q = u) := by
  refine Met.mk (Bh := (fun H => Tw X ow t (skW X f k) H ∧ Tw X ow u (reW a E) H)) (by decide) (Nat.le_of_ble_eq_true rfl) ?_
  intro p e s m below meth c ls hF hB hl
  obtain ⟨hT, hR⟩ := hB
  have hl : lv_has ls 5 [(0, .ref (f 0)), (1, .int x), (2, .ref a)] := hl
  obtain ⟨hx, hb, hml, hr, hlk, hown, hG⟩ := id hF
  have hK := hG.K h0
  have hS : va_S (fun q => ow q = t ∨ ow q = u) s.heap s.heap [] := va_S.rf
  have hO1 := hO.1
  have hO2 := hO.2.1
  have hO3 := hO.2.2.1
  have hAo : ∀ q, q < X.z → ¬ (fun q => ow q = t ∨ ow q = u) q := fun q h9 (h8 : ow q = t ∨ ow q = u) => absurd (hz q h8) (by omega)
  refine lv_aload_n hx hb dX5_redeemWish_0 rfl (lv_at hl 0 rfl) ?_
  refine g_get (ci := 4) (v := .ref (f 3)) h0 hF inX5 hT.1 0 rfl rfl 2 (by decide) wf_X5_28 rfl rfl dX5_redeemWish_1 ?_
  refine lv_iload_n hx hb dX5_redeemWish_4 rfl (lv_at hl 1 rfl) ?_
  refine core_p (v := .int (bI (hasB (k.2 2) x))) (grV (n := 1) (As := [.int x]) (rest := []) h0 hF (m_X7_has h0 (f := f) (k := k) hO  x) wm_X5_148 wo_X7_has ws_X7__X7_has wz_X7 wc_X7_has ⟨by decide, by decide, by decide +kernel⟩ rfl ⟨Nat.le_of_ble_eq_true rfl, Nat.le_of_ble_eq_true rfl⟩ (ci := 6) ⟨_, hT.1 3 _ rfl⟩ rfl hT.1 hS hAo ⟨Nat.le_of_ble_eq_true rfl, Nat.le_of_ble_eq_true rfl⟩ hl.1 rfl (Nat.le_of_ble_eq_true rfl) dX5_redeemWish_5) ?_
  refine lv_if_ne (tgt := 13) hx hb dX5_redeemWish_8 (by decide) (fun c_8 => ?_) (fun c_8 => ?_)
  · have n_8 := bI_n0.mp c_8
    have hxx := hasB_tn n_8 (by omega)
    have hx2 := hxx.2
    have hw := hO.2.2.2.2.1 (tn x) hx2
    have hw2 := hw.2
    refine lv_aload_n hx hb dX5_redeemWish_13 rfl (lv_at hl 0 rfl) ?_
    refine g_get (ci := 4) (v := .ref (f 3)) h0 hF inX5 hT.1 0 rfl rfl 2 (by decide) wf_X5_28 rfl rfl dX5_redeemWish_14 ?_
    refine lv_iload_n hx hb dX5_redeemWish_17 rfl (lv_at hl 1 rfl) ?_
    refine core_p (v := .int (bI (isImp k (tn x)))) (grV (n := 1) (As := [.int x]) (rest := []) h0 hF (m_X7_isImpounded h0 (f := f) (k := k) hO  x (tn x) hxx.1 hx2) wm_X5_149 wo_X7_isImpounded ws_X7__X7_isImpounded wz_X7 wc_X7_isImpounded ⟨by decide, by decide, by decide +kernel⟩ rfl ⟨Nat.le_of_ble_eq_true rfl, Nat.le_of_ble_eq_true rfl⟩ (ci := 6) ⟨_, hT.1 3 _ rfl⟩ rfl hT.1 hS hAo ⟨Nat.le_of_ble_eq_true rfl, Nat.le_of_ble_eq_true rfl⟩ hl.1 rfl (Nat.le_of_ble_eq_true rfl) dX5_redeemWish_18) ?_
    refine lv_if_ne (tgt := 40) hx hb dX5_redeemWish_21 (by decide) (fun c_21 => ?_) (fun c_21 => ?_)
    · have n_21 := bI_n0.mp c_21
      refine lv_aload_n hx hb dX5_redeemWish_40 rfl (lv_at hl 0 rfl) ?_
      refine g_get (ci := 4) (v := .ref (f 3)) h0 hF inX5 hT.1 0 rfl rfl 2 (by decide) wf_X5_28 rfl rfl dX5_redeemWish_41 ?_
      refine g_get (ci := 6) (v := .ref (f 18)) h0 hF inX7 hT.1 3 rfl rfl 1 (by decide) wf_X5_155 rfl rfl dX5_redeemWish_44 ?_
      refine lv_iload_n hx hb dX5_redeemWish_47 rfl (lv_at hl 1 rfl) ?_
      refine g_iald hx hb hK hT.1 18 0 rfl rfl (tn x) (hxx.1) (by omega) (by decide) dX5_redeemWish_48 ?_
      refine lv_istore_n (lv' := [(3, .int (k.1 14 (tn x))), (0, .ref (f 0)), (1, .int x), (2, .ref a)]) hx hb dX5_redeemWish_49 rfl hl (by decide) rfl (fun ls hl => ?_)
      refine lv_aload_n hx hb dX5_redeemWish_50 rfl (lv_at hl 1 rfl) ?_
      refine lv_iload_n hx hb dX5_redeemWish_51 rfl (lv_at hl 2 rfl) ?_
      refine core_p (v := .int (cost k (tn x))) (grV (n := 1) (As := [.int x]) (rest := []) h0 hF (m_X5_costToRedeem h0 (f := f) (k := k) hO  x (tn x) hxx.1 hx2) wm_X5_158 wo_X5_costToRedeem ws_X5__X5_costToRedeem wz_X5 wc_X5_costToRedeem ⟨by decide, by decide, by decide +kernel⟩ rfl ⟨Nat.le_of_ble_eq_true rfl, Nat.le_of_ble_eq_true rfl⟩ (ci := 4) ⟨_, hT.1 0 _ rfl⟩ rfl hT.1 hS hAo ⟨Nat.le_of_ble_eq_true rfl, Nat.le_of_ble_eq_true rfl⟩ hl.1 rfl (Nat.le_of_ble_eq_true rfl) dX5_redeemWish_52) ?_
      refine lv_istore (lv' := [(4, .int (cost k (tn x))), (3, .int (k.1 14 (tn x))), (0, .ref (f 0)), (1, .int x), (2, .ref a)]) hx hb dX5_redeemWish_55 hl (by decide) rfl (fun ls hl => ?_)
      refine lv_aload_n hx hb dX5_redeemWish_57 rfl (lv_at hl 2 rfl) ?_
      refine g_get (ci := 4) (v := .ref (f 2)) h0 hF inX5 hT.1 0 rfl rfl 1 (by decide) wf_X5_21 rfl rfl dX5_redeemWish_58 ?_
      refine g_get (ci := 3) (v := .ref (f 9)) h0 hF inX4 hT.1 2 rfl rfl 1 (by decide) wf_X5_120 rfl rfl dX5_redeemWish_61 ?_
      refine lv_iload_n hx hb dX5_redeemWish_64 rfl (lv_at hl 1 rfl) ?_
      refine g_iald hx hb hK hT.1 9 0 rfl rfl (wR k (tn x)) (hw.1) (by omega) (by decide) dX5_redeemWish_65 ?_
      refine lv_iload hx hb dX5_redeemWish_66 (lv_at hl 0 rfl) ?_
      refine lv_icmp_ge (tgt := 90) hx hb dX5_redeemWish_68 (by decide) (fun c_68 => ?_) (fun c_68 => ?_)
      · have n_68 := Int32.not_lt.mpr c_68
        refine lv_aload_n hx hb dX5_redeemWish_90 rfl (lv_at hl 2 rfl) ?_
        refine g_get (ci := 4) (v := .ref (f 2)) h0 hF inX5 hT.1 0 rfl rfl 1 (by decide) wf_X5_21 rfl rfl dX5_redeemWish_91 ?_
        refine g_get (ci := 3) (v := .ref (f 9)) h0 hF inX4 hT.1 2 rfl rfl 1 (by decide) wf_X5_120 rfl rfl dX5_redeemWish_94 ?_
        refine lv_iload_n hx hb dX5_redeemWish_97 rfl (lv_at hl 1 rfl) ?_
        refine lv_dup2_11 hx hb dX5_redeemWish_98 rfl rfl ?_
        refine g_iald hx hb hK hT.1 9 0 rfl rfl (wR k (tn x)) (hw.1) (by omega) (by decide) dX5_redeemWish_99 ?_
        refine lv_iload hx hb dX5_redeemWish_100 (lv_at hl 0 rfl) ?_
        refine lv_isub hx hb dX5_redeemWish_102 ?_
        have htg := hT.tag 9 rfl
        refine g_iast hx hb hK hT hS (Or.inl htg) 9 0 rfl rfl (wR k (tn x)) (hw.1) (by omega) (by decide) dX5_redeemWish_103 (fun H locs oq hT' hS => ?_)
        have hR := hR.fr1 oq (by rw [htg]; omega)
        have hT : Tw X ow t (skW X f (sU k 5 (wR k (tn x)) ((k.1 5 (wR k (tn x))) - (cost k (tn x))))) H := hT'.to (skS_5 X f k (wR k (tn x)) ((k.1 5 (wR k (tn x))) - (cost k (tn x))))
        refine lv_aload_n hx hb dX5_redeemWish_104 rfl (lv_at hl 2 rfl) ?_
        refine g_get (ci := 4) (v := .ref (f 3)) h0 hF inX5 hT.1 0 rfl rfl 2 (by decide) wf_X5_28 rfl rfl dX5_redeemWish_105 ?_
        refine g_get (ci := 6) (v := .ref (f 22)) h0 hF inX7 hT.1 3 rfl rfl 5 (by decide) wf_X5_145 rfl rfl dX5_redeemWish_108 ?_
        refine lv_iload_n hx hb dX5_redeemWish_111 rfl (lv_at hl 3 rfl) ?_
        refine lv_bipush (v := (-4)) hx hb dX5_redeemWish_112 (by decide) ?_
        have htg := hT.tag 22 rfl
        refine g_iast hx hb hK hT hS (Or.inl htg) 22 0 rfl rfl (tn x) (hxx.1) (by omega) (by decide) dX5_redeemWish_114 (fun H locs oq hT' hS => ?_)
        have hR := hR.fr1 oq (by rw [htg]; omega)
        have hT : Tw X ow t (skW X f (sU (sU k 5 (wR k (tn x)) ((k.1 5 (wR k (tn x))) - (cost k (tn x)))) 18 (tn x) (-4))) H := hT'.to (skS_18 X f (sU k 5 (wR k (tn x)) ((k.1 5 (wR k (tn x))) - (cost k (tn x)))) (tn x) (-4))
        refine lv_iload hx hb dX5_redeemWish_115 (lv_at hl 0 rfl) ?_
        exact mm_iret hF hS dX5_redeemWish_117 (by have e9 : oRedeem k E x = ((cost k (tn x) : Int32), sU (sU k 5 (wR k (tn x)) ((k.1 5 (wR k (tn x))) - (cost k (tn x)))) 18 (tn x) (-4), E) := (by first | (simp only [oRedeem, n_8, n_21, c_68, n_68, if_true, if_false, Bool.false_eq_true, reduceIte]; done) | (simp only [oRedeem, n_8, n_21, c_68, n_68, if_true, if_false, Bool.false_eq_true, reduceIte]; rfl)); exact ⟨by rw [e9], by rw [e9]; exact hT, by rw [e9]; exact hR⟩)
      · have n_68 := Int32.not_le.mp c_68
        refine lv_aload_n hx hb dX5_redeemWish_71 rfl (lv_at hl 4 rfl) ?_
        refine lv_bipush (v := 6) hx hb dX5_redeemWish_72 (by decide) ?_
        refine lv_iload hx hb dX5_redeemWish_74 (lv_at hl 0 rfl) ?_
        refine lv_aload_n hx hb dX5_redeemWish_76 rfl (lv_at hl 2 rfl) ?_
        refine g_get (ci := 4) (v := .ref (f 2)) h0 hF inX5 hT.1 0 rfl rfl 1 (by decide) wf_X5_21 rfl rfl dX5_redeemWish_77 ?_
        refine g_get (ci := 3) (v := .ref (f 9)) h0 hF inX4 hT.1 2 rfl rfl 1 (by decide) wf_X5_120 rfl rfl dX5_redeemWish_80 ?_
        refine lv_iload_n hx hb dX5_redeemWish_83 rfl (lv_at hl 1 rfl) ?_
        refine g_iald hx hb hK hT.1 9 0 rfl rfl (wR k (tn x)) (hw.1) (by omega) (by decide) dX5_redeemWish_84 ?_
        refine lv_isub hx hb dX5_redeemWish_85 ?_
        refine core_m (A1 := fun q => ow q = u) (grV (n := 2) (As := [.int 6, .int ((cost k (tn x)) - (k.1 5 (wR k (tn x))))]) (rest := []) h0 hF (m_X3_because h0 (ow := ow) (u := u) (a := a) (E := E) 6 ((cost k (tn x)) - (k.1 5 (wR k (tn x))))) wm_X5_69 wo_X3_because ws_X3__X3_because wz_X3 wc_X3_because ⟨by decide, by decide, by decide +kernel⟩ rfl ⟨Nat.le_of_ble_eq_true rfl, Nat.le_of_ble_eq_true rfl⟩ (ci := 2) ⟨_, hR.1 0 _ rfl⟩ rfl hR hS hAo ⟨Nat.le_of_ble_eq_true rfl, Nat.le_of_ble_eq_true rfl⟩ hl.1 rfl (Nat.le_of_ble_eq_true rfl) dX5_redeemWish_86) hS (fun q (h8 : ow q = u) => (show ow q = t ∨ ow q = u from by omega)) (fun v H locs hq hz1 hk1 hS => ?_)
        obtain ⟨rfl, hR⟩ := hq
        have hT := hT.keep hk1 (fun q h9 (h8 : ow q = u) => by omega)
        have hR : Tw X ow u (reW a (rfN 6 ((cost k (tn x)) - (k.1 5 (wR k (tn x)))))) H := hR
        exact mm_iret hF hS dX5_redeemWish_89 (by have e9 : oRedeem k E x = (((-3) : Int32), k, rfN 6 ((cost k (tn x)) - (k.1 5 (wR k (tn x))))) := (by first | (simp only [oRedeem, n_8, n_21, c_68, n_68, if_true, if_false, Bool.false_eq_true, reduceIte]; done) | (simp only [oRedeem, n_8, n_21, c_68, n_68, if_true, if_false, Bool.false_eq_true, reduceIte]; rfl)); exact ⟨by rw [e9], by rw [e9]; exact hT, by rw [e9]; exact hR⟩)
    · have n_21 := bI_0.mp c_21
      refine lv_aload_n hx hb dX5_redeemWish_24 rfl (lv_at hl 2 rfl) ?_
      refine lv_bipush (v := 12) hx hb dX5_redeemWish_25 (by decide) ?_
      refine lv_aload_n hx hb dX5_redeemWish_27 rfl (lv_at hl 0 rfl) ?_
      refine g_get (ci := 4) (v := .ref (f 3)) h0 hF inX5 hT.1 0 rfl rfl 2 (by decide) wf_X5_28 rfl rfl dX5_redeemWish_28 ?_
      refine g_get (ci := 6) (v := .ref (f 21)) h0 hF inX7 hT.1 3 rfl rfl 4 (by decide) wf_X5_152 rfl rfl dX5_redeemWish_31 ?_
      refine lv_iload_n hx hb dX5_redeemWish_34 rfl (lv_at hl 1 rfl) ?_
      refine g_iald hx hb hK hT.1 21 0 rfl rfl (tn x) (hxx.1) (by omega) (by decide) dX5_redeemWish_35 ?_
      refine core_m (A1 := fun q => ow q = u) (grV (n := 2) (As := [.int 12, .int (k.1 17 (tn x))]) (rest := []) h0 hF (m_X3_because h0 (ow := ow) (u := u) (a := a) (E := E) 12 (k.1 17 (tn x))) wm_X5_69 wo_X3_because ws_X3__X3_because wz_X3 wc_X3_because ⟨by decide, by decide, by decide +kernel⟩ rfl ⟨Nat.le_of_ble_eq_true rfl, Nat.le_of_ble_eq_true rfl⟩ (ci := 2) ⟨_, hR.1 0 _ rfl⟩ rfl hR hS hAo ⟨Nat.le_of_ble_eq_true rfl, Nat.le_of_ble_eq_true rfl⟩ hl.1 rfl (Nat.le_of_ble_eq_true rfl) dX5_redeemWish_36) hS (fun q (h8 : ow q = u) => (show ow q = t ∨ ow q = u from by omega)) (fun v H locs hq hz1 hk1 hS => ?_)
      obtain ⟨rfl, hR⟩ := hq
      have hT := hT.keep hk1 (fun q h9 (h8 : ow q = u) => by omega)
      have hR : Tw X ow u (reW a (rfN 12 (k.1 17 (tn x)))) H := hR
      exact mm_iret hF hS dX5_redeemWish_39 (by have e9 : oRedeem k E x = (((-3) : Int32), k, rfN 12 (k.1 17 (tn x))) := (by first | (simp only [oRedeem, n_8, n_21, if_true, if_false, Bool.false_eq_true, reduceIte]; done) | (simp only [oRedeem, n_8, n_21, if_true, if_false, Bool.false_eq_true, reduceIte]; rfl)); exact ⟨by rw [e9], by rw [e9]; exact hT, by rw [e9]; exact hR⟩)
  · have n_8 := bI_0.mp c_8
    refine lv_iconst (v := (-1)) hx hb dX5_redeemWish_11 (by decide) ?_
    exact mm_iret hF hS dX5_redeemWish_12 (by have e9 : oRedeem k E x = (((-1) : Int32), k, E) := (by first | (simp only [oRedeem, n_8, if_true, if_false, Bool.false_eq_true, reduceIte]; done) | (simp only [oRedeem, n_8, if_true, if_false, Bool.false_eq_true, reduceIte]; rfl)); exact ⟨by rw [e9], by rw [e9]; exact hT, by rw [e9]; exact hR⟩)

set_option maxHeartbeats 4000000 in
set_option maxRecDepth 100000 in
theorem m_X5_giveStay {X : Cx} {l : Launch} (h0 : Init X) {ow : Nat → Nat} {t u a : Nat} {f : Nat → Nat} {k : Sk} {E : Nat → Int32} (hO : Ok k) (htu : t ≠ u) (hz : ∀ q, ow q = t ∨ ow q = u → X.z ≤ q) (r c1 : Int32) : MM X l yX5_giveStay cX5_giveStay 5 (some .int) 1 22 0 0 [.ref (f 0), .int r, .int c1, .ref a] (fun H => Tw X ow t (skW X f k) H ∧ Tw X ow u (reW a E) H) (fun v H => v = some (.int (oStay k E r c1).1) ∧ Tw X ow t (skW X f (oStay k E r c1).2.1) H ∧ Tw X ow u (reW a (oStay k E r c1).2.2) H) (fun q => ow q = t ∨ ow q = u) := by
  refine Met.mk (Bh := (fun H => Tw X ow t (skW X f k) H ∧ Tw X ow u (reW a E) H)) (by decide) (Nat.le_of_ble_eq_true rfl) ?_
  intro p e s m below meth c ls hF hB hl
  obtain ⟨hT, hR⟩ := hB
  have hl : lv_has ls 5 [(0, .ref (f 0)), (1, .int r), (2, .int c1), (3, .ref a)] := hl
  obtain ⟨hx, hb, hml, hr, hlk, hown, hG⟩ := id hF
  have hK := hG.K h0
  have hS : va_S (fun q => ow q = t ∨ ow q = u) s.heap s.heap [] := va_S.rf
  have hO1 := hO.1
  have hO2 := hO.2.1
  have hO3 := hO.2.2.1
  have hAo : ∀ q, q < X.z → ¬ (fun q => ow q = t ∨ ow q = u) q := fun q h9 (h8 : ow q = t ∨ ow q = u) => absurd (hz q h8) (by omega)
  refine lv_aload_n hx hb dX5_giveStay_0 rfl (lv_at hl 0 rfl) ?_
  refine g_get (ci := 4) (v := .ref (f 2)) h0 hF inX5 hT.1 0 rfl rfl 1 (by decide) wf_X5_21 rfl rfl dX5_giveStay_1 ?_
  refine lv_iload_n hx hb dX5_giveStay_4 rfl (lv_at hl 1 rfl) ?_
  refine core_p (v := .int (bI (hasB (k.2 1) r))) (grV (n := 1) (As := [.int r]) (rest := []) h0 hF (m_X4_has h0 (f := f) (k := k) hO  r) wm_X5_54 wo_X4_has ws_X4__X4_has wz_X4 wc_X4_has ⟨by decide, by decide, by decide +kernel⟩ rfl ⟨Nat.le_of_ble_eq_true rfl, Nat.le_of_ble_eq_true rfl⟩ (ci := 3) ⟨_, hT.1 2 _ rfl⟩ rfl hT.1 hS hAo ⟨Nat.le_of_ble_eq_true rfl, Nat.le_of_ble_eq_true rfl⟩ hl.1 rfl (Nat.le_of_ble_eq_true rfl) dX5_giveStay_5) ?_
  refine lv_if_ne (tgt := 13) hx hb dX5_giveStay_8 (by decide) (fun c_8 => ?_) (fun c_8 => ?_)
  · have n_8 := bI_n0.mp c_8
    have hr := hasB_tn n_8 (by omega)
    have hr2 := hr.2
    refine lv_iload_n hx hb dX5_giveStay_13 rfl (lv_at hl 2 rfl) ?_
    refine lv_iconst (v := 0) hx hb dX5_giveStay_14 (by decide) ?_
    refine lv_bipush (v := 9) hx hb dX5_giveStay_15 (by decide) ?_
    refine core_p (v := .int (bI (winB c1 0 9))) (grSN (n := 3) (As := [.int c1, .int 0, .int 9]) (rest := []) h0 hF (m_X9_isWithin h0 c1 0 9) wmn_X5_62 wt_X9_isWithin wz_X9 wc_X9_isWithin ⟨by decide, by decide, by decide +kernel⟩ rfl ⟨Nat.le_of_ble_eq_true rfl, Nat.le_of_ble_eq_true rfl⟩ trivial hS hAo ⟨Nat.le_of_ble_eq_true rfl, Nat.le_of_ble_eq_true rfl⟩ hl.1 rfl (Nat.le_of_ble_eq_true rfl) dX5_giveStay_17) ?_
    refine lv_if_ne (tgt := 26) hx hb dX5_giveStay_20 (by decide) (fun c_20 => ?_) (fun c_20 => ?_)
    · have n_20 := bI_n0.mp c_20
      refine lv_aload_n hx hb dX5_giveStay_26 rfl (lv_at hl 0 rfl) ?_
      refine g_get (ci := 4) (v := .ref (f 2)) h0 hF inX5 hT.1 0 rfl rfl 1 (by decide) wf_X5_21 rfl rfl dX5_giveStay_27 ?_
      refine g_get (ci := 3) (v := .ref (f 11)) h0 hF inX4 hT.1 2 rfl rfl 3 (by decide) wf_X5_133 rfl rfl dX5_giveStay_30 ?_
      refine lv_iload_n hx hb dX5_giveStay_33 rfl (lv_at hl 1 rfl) ?_
      refine g_iald hx hb hK hT.1 11 0 rfl rfl (tn r) (hr.1) (by omega) (by decide) dX5_giveStay_34 ?_
      refine lv_istore (lv' := [(4, .int (k.1 7 (tn r))), (0, .ref (f 0)), (1, .int r), (2, .int c1), (3, .ref a)]) hx hb dX5_giveStay_35 hl (by decide) rfl (fun ls hl => ?_)
      refine lv_iload hx hb dX5_giveStay_37 (lv_at hl 0 rfl) ?_
      refine lv_iload_n hx hb dX5_giveStay_39 rfl (lv_at hl 3 rfl) ?_
      refine lv_icmp_ne (tgt := 50) hx hb dX5_giveStay_40 (by decide) (fun c_40 => ?_) (fun c_40 => ?_)
      · refine lv_aload_n hx hb dX5_giveStay_50 rfl (lv_at hl 1 rfl) ?_
        refine g_get (ci := 4) (v := .ref (f 2)) h0 hF inX5 hT.1 0 rfl rfl 1 (by decide) wf_X5_21 rfl rfl dX5_giveStay_51 ?_
        refine g_get (ci := 3) (v := .ref (f 11)) h0 hF inX4 hT.1 2 rfl rfl 3 (by decide) wf_X5_133 rfl rfl dX5_giveStay_54 ?_
        refine lv_iload_n hx hb dX5_giveStay_57 rfl (lv_at hl 2 rfl) ?_
        refine lv_iload_n hx hb dX5_giveStay_58 rfl (lv_at hl 3 rfl) ?_
        have htg := hT.tag 11 rfl
        refine g_iast hx hb hK hT hS (Or.inl htg) 11 0 rfl rfl (tn r) (hr.1) (by omega) (by decide) dX5_giveStay_59 (fun H locs oq hT' hS => ?_)
        have hR := hR.fr1 oq (by rw [htg]; omega)
        have hT : Tw X ow t (skW X f (sU k 7 (tn r) c1)) H := hT'.to (skS_7 X f k (tn r) c1)
        refine lv_iload hx hb dX5_giveStay_60 (lv_at hl 0 rfl) ?_
        exact mm_iret hF hS dX5_giveStay_62 (by have e9 : oStay k E r c1 = ((k.1 7 (tn r) : Int32), sU k 7 (tn r) c1, E) := (by first | (simp only [oStay, n_8, n_20, c_40, if_true, if_false, Bool.false_eq_true, reduceIte]; done) | (simp only [oStay, n_8, n_20, c_40, if_true, if_false, Bool.false_eq_true, reduceIte]; rfl)); exact ⟨by rw [e9], by rw [e9]; exact hT, by rw [e9]; exact hR⟩)
      · refine lv_aload_n hx hb dX5_giveStay_43 rfl (lv_at hl 4 rfl) ?_
        refine lv_iconst (v := 2) hx hb dX5_giveStay_44 (by decide) ?_
        refine lv_iload_n hx hb dX5_giveStay_45 rfl (lv_at hl 3 rfl) ?_
        refine core_m (A1 := fun q => ow q = u) (grV (n := 2) (As := [.int 2, .int c1]) (rest := []) h0 hF (m_X3_because h0 (ow := ow) (u := u) (a := a) (E := E) 2 c1) wm_X5_69 wo_X3_because ws_X3__X3_because wz_X3 wc_X3_because ⟨by decide, by decide, by decide +kernel⟩ rfl ⟨Nat.le_of_ble_eq_true rfl, Nat.le_of_ble_eq_true rfl⟩ (ci := 2) ⟨_, hR.1 0 _ rfl⟩ rfl hR hS hAo ⟨Nat.le_of_ble_eq_true rfl, Nat.le_of_ble_eq_true rfl⟩ hl.1 rfl (Nat.le_of_ble_eq_true rfl) dX5_giveStay_46) hS (fun q (h8 : ow q = u) => (show ow q = t ∨ ow q = u from by omega)) (fun v H locs hq hz1 hk1 hS => ?_)
        obtain ⟨rfl, hR⟩ := hq
        have hT := hT.keep hk1 (fun q h9 (h8 : ow q = u) => by omega)
        have hR : Tw X ow u (reW a (rfN 2 c1)) H := hR
        exact mm_iret hF hS dX5_giveStay_49 (by have e9 : oStay k E r c1 = (((-3) : Int32), k, rfN 2 c1) := (by first | (simp only [oStay, n_8, n_20, c_40, if_true, if_false, Bool.false_eq_true, reduceIte]; done) | (simp only [oStay, n_8, n_20, c_40, if_true, if_false, Bool.false_eq_true, reduceIte]; rfl)); exact ⟨by rw [e9], by rw [e9]; exact hT, by rw [e9]; exact hR⟩)
    · have n_20 := bI_0.mp c_20
      refine lv_bipush (v := (-2)) hx hb dX5_giveStay_23 (by decide) ?_
      exact mm_iret hF hS dX5_giveStay_25 (by have e9 : oStay k E r c1 = (((-2) : Int32), k, E) := (by first | (simp only [oStay, n_8, n_20, if_true, if_false, Bool.false_eq_true, reduceIte]; done) | (simp only [oStay, n_8, n_20, if_true, if_false, Bool.false_eq_true, reduceIte]; rfl)); exact ⟨by rw [e9], by rw [e9]; exact hT, by rw [e9]; exact hR⟩)
  · have n_8 := bI_0.mp c_8
    refine lv_iconst (v := (-1)) hx hb dX5_giveStay_11 (by decide) ?_
    exact mm_iret hF hS dX5_giveStay_12 (by have e9 : oStay k E r c1 = (((-1) : Int32), k, E) := (by first | (simp only [oStay, n_8, if_true, if_false, Bool.false_eq_true, reduceIte]; done) | (simp only [oStay, n_8, if_true, if_false, Bool.false_eq_true, reduceIte]; rfl)); exact ⟨by rw [e9], by rw [e9]; exact hT, by rw [e9]; exact hR⟩)
