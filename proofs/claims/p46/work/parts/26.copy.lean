set_option maxHeartbeats 4000000 in
set_option maxRecDepth 100000 in
theorem m_X6_copyFrom {X : Cx} {l : Launch} (h0 : Init X) {ow : Nat → Nat} {t u : Nat} {f g : Nat → Nat} {k q : Sk} (htu : t ≠ u) (hz : ∀ q, ow q = t ∨ ow q = u → X.z ≤ q) : MM X l yX6_copyFrom cX6_copyFrom 2 none 2 81 0 0 [.ref (f 1), .ref (g 1)] (fun H => Tw X ow t (skW X f k) H ∧ Tw X ow u (skW X g q) H) (fun v H => v = none ∧ Tw X ow t (skW X f (cpS k q)) H ∧ Tw X ow u (skW X g q) H) (fun q => ow q = t ∨ ow q = u) := by
  refine Met.mk (Bh := (fun H => Tw X ow t (skW X f k) H ∧ Tw X ow u (skW X g q) H)) (by decide) (Nat.le_of_ble_eq_true rfl) ?_
  intro p e s m below meth c ls hF hB hl
  obtain ⟨hT, hU⟩ := hB
  have hl : lv_has ls 2 [(0, .ref (f 1)), (1, .ref (g 1))] := hl
  obtain ⟨hx, hb, hml, hr, hlk, hown, hG⟩ := id hF
  have hK := hG.K h0
  have hS : va_S (fun q => ow q = t ∨ ow q = u) s.heap s.heap [] := va_S.rf
  have hAo : ∀ q, q < X.z → ¬ (fun q => ow q = t ∨ ow q = u) q := fun q h9 (h8 : ow q = t ∨ ow q = u) => absurd (hz q h8) (by omega)
  refine lv_aload_n hx hb dX6_copyFrom_0 rfl (lv_at hl 0 rfl) ?_
  refine lv_aload_n hx hb dX6_copyFrom_1 rfl (lv_at hl 1 rfl) ?_
  refine g_get (ci := 5) (v := .int (nI (q.2 0))) h0 hF inX6 hU.1 1 rfl rfl 0 (by decide) wf_X6_27 rfl rfl dX6_copyFrom_2 ?_
  have htg := hT.tag 1 rfl
  refine g_put (ci := 5) h0 hF inX6 tyX6 tyX6_ok nmX6 hT hS (Or.inl htg) 1 rfl rfl 0 (by decide) wf_X6_27 rfl rfl (tyX6_ok 0 (by decide)) rfl rfl (Nat.le_of_ble_eq_true rfl) dX6_copyFrom_5 (fun H locs oq hT' hS => ?_)
  have hU := hU.fr1 oq (by rw [htg]; omega)
  have hT : Tw X ow t (skW X f (sC k 0 (q.2 0))) H := hT'.to (skC_0 X f k (q.2 0))
  refine lv_aload_n hx hb dX6_copyFrom_8 rfl (lv_at hl 1 rfl) ?_
  refine g_get (ci := 5) (v := .ref (g 4)) h0 hF inX6 hU.1 1 rfl rfl 1 (by decide) wf_X6_9 rfl rfl dX6_copyFrom_9 ?_
  refine lv_aload_n hx hb dX6_copyFrom_12 rfl (lv_at hl 0 rfl) ?_
  refine g_get (ci := 5) (v := .ref (f 4)) h0 hF inX6 hT.1 1 rfl rfl 1 (by decide) wf_X6_9 rfl rfl dX6_copyFrom_13 ?_
  refine core_m (A1 := fun q => ow q = t ∨ ow q = u) (grSN (Bh := (fun H => Tw X ow t (skW X f (sC k 0 (q.2 0))) H ∧ Tw X ow u (skW X g q) H)) (n := 2) (As := [.ref (g 4), .ref (f 4)]) (rest := []) h0 hF (m_X9_copyRow h0 (ow := ow) (t := t) (u := u) (ws := skW X f (sC k 0 (q.2 0))) (ws2 := skW X g q) (x := g 4) (y := f 4) (N := 8) (F := q.1 0) (G := k.1 0) htu 4 4 rfl rfl (by decide)) wmn_X6_31 wt_X9_copyRow wz_X9 wc_X9_copyRow ⟨by decide, by decide, by decide +kernel⟩ rfl ⟨Nat.le_of_ble_eq_true rfl, Nat.le_of_ble_eq_true rfl⟩ ⟨hT, hU⟩ hS hAo ⟨Nat.le_of_ble_eq_true rfl, Nat.le_of_ble_eq_true rfl⟩ hl.1 rfl (Nat.le_of_ble_eq_true rfl) dX6_copyFrom_16) hS (fun q (h8 : ow q = t ∨ ow q = u) => (show ow q = t ∨ ow q = u from by omega)) (fun v H locs hq hz1 hk1 hS => ?_)
  obtain ⟨rfl, hT', hU⟩ := hq
  have hT : Tw X ow t (skW X f (sR (sC k 0 (q.2 0)) 0 (q.1 0))) H := hT'.to (skR_0 X f (sC k 0 (q.2 0)) (q.1 0))
  refine lv_aload_n hx hb dX6_copyFrom_19 rfl (lv_at hl 1 rfl) ?_
  refine g_get (ci := 5) (v := .ref (g 5)) h0 hF inX6 hU.1 1 rfl rfl 2 (by decide) wf_X6_15 rfl rfl dX6_copyFrom_20 ?_
  refine lv_aload_n hx hb dX6_copyFrom_23 rfl (lv_at hl 0 rfl) ?_
  refine g_get (ci := 5) (v := .ref (f 5)) h0 hF inX6 hT.1 1 rfl rfl 2 (by decide) wf_X6_15 rfl rfl dX6_copyFrom_24 ?_
  refine core_m (A1 := fun q => ow q = t ∨ ow q = u) (grSN (Bh := (fun H => Tw X ow t (skW X f (sR (sC k 0 (q.2 0)) 0 (q.1 0))) H ∧ Tw X ow u (skW X g q) H)) (n := 2) (As := [.ref (g 5), .ref (f 5)]) (rest := []) h0 hF (m_X9_copyRow h0 (ow := ow) (t := t) (u := u) (ws := skW X f (sR (sC k 0 (q.2 0)) 0 (q.1 0))) (ws2 := skW X g q) (x := g 5) (y := f 5) (N := 8) (F := q.1 1) (G := k.1 1) htu 5 5 rfl rfl (by decide)) wmn_X6_31 wt_X9_copyRow wz_X9 wc_X9_copyRow ⟨by decide, by decide, by decide +kernel⟩ rfl ⟨Nat.le_of_ble_eq_true rfl, Nat.le_of_ble_eq_true rfl⟩ ⟨hT, hU⟩ hS hAo ⟨Nat.le_of_ble_eq_true rfl, Nat.le_of_ble_eq_true rfl⟩ hl.1 rfl (Nat.le_of_ble_eq_true rfl) dX6_copyFrom_27) hS (fun q (h8 : ow q = t ∨ ow q = u) => (show ow q = t ∨ ow q = u from by omega)) (fun v H locs hq hz1 hk1 hS => ?_)
  obtain ⟨rfl, hT', hU⟩ := hq
  have hT : Tw X ow t (skW X f (sR (sR (sC k 0 (q.2 0)) 0 (q.1 0)) 1 (q.1 1))) H := hT'.to (skR_1 X f (sR (sC k 0 (q.2 0)) 0 (q.1 0)) (q.1 1))
  refine lv_aload_n hx hb dX6_copyFrom_30 rfl (lv_at hl 1 rfl) ?_
  refine g_get (ci := 5) (v := .ref (g 6)) h0 hF inX6 hU.1 1 rfl rfl 3 (by decide) wf_X6_18 rfl rfl dX6_copyFrom_31 ?_
  refine lv_aload_n hx hb dX6_copyFrom_34 rfl (lv_at hl 0 rfl) ?_
  refine g_get (ci := 5) (v := .ref (f 6)) h0 hF inX6 hT.1 1 rfl rfl 3 (by decide) wf_X6_18 rfl rfl dX6_copyFrom_35 ?_
  refine core_m (A1 := fun q => ow q = t ∨ ow q = u) (grSN (Bh := (fun H => Tw X ow t (skW X f (sR (sR (sC k 0 (q.2 0)) 0 (q.1 0)) 1 (q.1 1))) H ∧ Tw X ow u (skW X g q) H)) (n := 2) (As := [.ref (g 6), .ref (f 6)]) (rest := []) h0 hF (m_X9_copyRow h0 (ow := ow) (t := t) (u := u) (ws := skW X f (sR (sR (sC k 0 (q.2 0)) 0 (q.1 0)) 1 (q.1 1))) (ws2 := skW X g q) (x := g 6) (y := f 6) (N := 8) (F := q.1 2) (G := k.1 2) htu 6 6 rfl rfl (by decide)) wmn_X6_31 wt_X9_copyRow wz_X9 wc_X9_copyRow ⟨by decide, by decide, by decide +kernel⟩ rfl ⟨Nat.le_of_ble_eq_true rfl, Nat.le_of_ble_eq_true rfl⟩ ⟨hT, hU⟩ hS hAo ⟨Nat.le_of_ble_eq_true rfl, Nat.le_of_ble_eq_true rfl⟩ hl.1 rfl (Nat.le_of_ble_eq_true rfl) dX6_copyFrom_38) hS (fun q (h8 : ow q = t ∨ ow q = u) => (show ow q = t ∨ ow q = u from by omega)) (fun v H locs hq hz1 hk1 hS => ?_)
  obtain ⟨rfl, hT', hU⟩ := hq
  have hT : Tw X ow t (skW X f (sR (sR (sR (sC k 0 (q.2 0)) 0 (q.1 0)) 1 (q.1 1)) 2 (q.1 2))) H := hT'.to (skR_2 X f (sR (sR (sC k 0 (q.2 0)) 0 (q.1 0)) 1 (q.1 1)) (q.1 2))
  refine lv_aload_n hx hb dX6_copyFrom_41 rfl (lv_at hl 1 rfl) ?_
  refine g_get (ci := 5) (v := .ref (g 7)) h0 hF inX6 hU.1 1 rfl rfl 4 (by decide) wf_X6_21 rfl rfl dX6_copyFrom_42 ?_
  refine lv_aload_n hx hb dX6_copyFrom_45 rfl (lv_at hl 0 rfl) ?_
  refine g_get (ci := 5) (v := .ref (f 7)) h0 hF inX6 hT.1 1 rfl rfl 4 (by decide) wf_X6_21 rfl rfl dX6_copyFrom_46 ?_
  refine core_m (A1 := fun q => ow q = t ∨ ow q = u) (grSN (Bh := (fun H => Tw X ow t (skW X f (sR (sR (sR (sC k 0 (q.2 0)) 0 (q.1 0)) 1 (q.1 1)) 2 (q.1 2))) H ∧ Tw X ow u (skW X g q) H)) (n := 2) (As := [.ref (g 7), .ref (f 7)]) (rest := []) h0 hF (m_X9_copyRow h0 (ow := ow) (t := t) (u := u) (ws := skW X f (sR (sR (sR (sC k 0 (q.2 0)) 0 (q.1 0)) 1 (q.1 1)) 2 (q.1 2))) (ws2 := skW X g q) (x := g 7) (y := f 7) (N := 8) (F := q.1 3) (G := k.1 3) htu 7 7 rfl rfl (by decide)) wmn_X6_31 wt_X9_copyRow wz_X9 wc_X9_copyRow ⟨by decide, by decide, by decide +kernel⟩ rfl ⟨Nat.le_of_ble_eq_true rfl, Nat.le_of_ble_eq_true rfl⟩ ⟨hT, hU⟩ hS hAo ⟨Nat.le_of_ble_eq_true rfl, Nat.le_of_ble_eq_true rfl⟩ hl.1 rfl (Nat.le_of_ble_eq_true rfl) dX6_copyFrom_49) hS (fun q (h8 : ow q = t ∨ ow q = u) => (show ow q = t ∨ ow q = u from by omega)) (fun v H locs hq hz1 hk1 hS => ?_)
  obtain ⟨rfl, hT', hU⟩ := hq
  have hT : Tw X ow t (skW X f (sR (sR (sR (sR (sC k 0 (q.2 0)) 0 (q.1 0)) 1 (q.1 1)) 2 (q.1 2)) 3 (q.1 3))) H := hT'.to (skR_3 X f (sR (sR (sR (sC k 0 (q.2 0)) 0 (q.1 0)) 1 (q.1 1)) 2 (q.1 2)) (q.1 3))
  refine lv_aload_n hx hb dX6_copyFrom_52 rfl (lv_at hl 1 rfl) ?_
  refine g_get (ci := 5) (v := .ref (g 8)) h0 hF inX6 hU.1 1 rfl rfl 5 (by decide) wf_X6_24 rfl rfl dX6_copyFrom_53 ?_
  refine lv_aload_n hx hb dX6_copyFrom_56 rfl (lv_at hl 0 rfl) ?_
  refine g_get (ci := 5) (v := .ref (f 8)) h0 hF inX6 hT.1 1 rfl rfl 5 (by decide) wf_X6_24 rfl rfl dX6_copyFrom_57 ?_
  refine core_m (A1 := fun q => ow q = t ∨ ow q = u) (grSN (Bh := (fun H => Tw X ow t (skW X f (sR (sR (sR (sR (sC k 0 (q.2 0)) 0 (q.1 0)) 1 (q.1 1)) 2 (q.1 2)) 3 (q.1 3))) H ∧ Tw X ow u (skW X g q) H)) (n := 2) (As := [.ref (g 8), .ref (f 8)]) (rest := []) h0 hF (m_X9_copyRow h0 (ow := ow) (t := t) (u := u) (ws := skW X f (sR (sR (sR (sR (sC k 0 (q.2 0)) 0 (q.1 0)) 1 (q.1 1)) 2 (q.1 2)) 3 (q.1 3))) (ws2 := skW X g q) (x := g 8) (y := f 8) (N := 4) (F := q.1 4) (G := k.1 4) htu 8 8 rfl rfl (by decide)) wmn_X6_31 wt_X9_copyRow wz_X9 wc_X9_copyRow ⟨by decide, by decide, by decide +kernel⟩ rfl ⟨Nat.le_of_ble_eq_true rfl, Nat.le_of_ble_eq_true rfl⟩ ⟨hT, hU⟩ hS hAo ⟨Nat.le_of_ble_eq_true rfl, Nat.le_of_ble_eq_true rfl⟩ hl.1 rfl (Nat.le_of_ble_eq_true rfl) dX6_copyFrom_60) hS (fun q (h8 : ow q = t ∨ ow q = u) => (show ow q = t ∨ ow q = u from by omega)) (fun v H locs hq hz1 hk1 hS => ?_)
  obtain ⟨rfl, hT', hU⟩ := hq
  have hT : Tw X ow t (skW X f (sR (sR (sR (sR (sR (sC k 0 (q.2 0)) 0 (q.1 0)) 1 (q.1 1)) 2 (q.1 2)) 3 (q.1 3)) 4 (q.1 4))) H := hT'.to (skR_4 X f (sR (sR (sR (sR (sC k 0 (q.2 0)) 0 (q.1 0)) 1 (q.1 1)) 2 (q.1 2)) 3 (q.1 3)) (q.1 4))
  exact mm_vret hF hS dX6_copyFrom_63 (⟨rfl, hT.to (skT X f (by intro r hr; match r, hr with | 0, _ => rfl | 1, _ => rfl | 2, _ => rfl | 3, _ => rfl | 4, _ => rfl | 5, _ => rfl | 6, _ => rfl | 7, _ => rfl | 8, _ => rfl | 9, _ => rfl | 10, _ => rfl | 11, _ => rfl | 12, _ => rfl | 13, _ => rfl | 14, _ => rfl | 15, _ => rfl | 16, _ => rfl | 17, _ => rfl | 18, _ => rfl | n + 19, hr => exact absurd hr (by omega)) rfl rfl (by intro i hi; match i, hi with | 0, _ => rfl | 1, _ => rfl | 2, _ => rfl | n + 3, hi => exact absurd hi (by omega))), hU⟩)

set_option maxHeartbeats 4000000 in
set_option maxRecDepth 100000 in
theorem m_X4_copyFrom {X : Cx} {l : Launch} (h0 : Init X) {ow : Nat → Nat} {t u : Nat} {f g : Nat → Nat} {k q : Sk} (htu : t ≠ u) (hz : ∀ q, ow q = t ∨ ow q = u → X.z ≤ q) : MM X l yX4_copyFrom cX4_copyFrom 2 none 2 81 0 0 [.ref (f 2), .ref (g 2)] (fun H => Tw X ow t (skW X f k) H ∧ Tw X ow u (skW X g q) H) (fun v H => v = none ∧ Tw X ow t (skW X f (cpR k q)) H ∧ Tw X ow u (skW X g q) H) (fun q => ow q = t ∨ ow q = u) := by
  refine Met.mk (Bh := (fun H => Tw X ow t (skW X f k) H ∧ Tw X ow u (skW X g q) H)) (by decide) (Nat.le_of_ble_eq_true rfl) ?_
  intro p e s m below meth c ls hF hB hl
  obtain ⟨hT, hU⟩ := hB
  have hl : lv_has ls 2 [(0, .ref (f 2)), (1, .ref (g 2))] := hl
  obtain ⟨hx, hb, hml, hr, hlk, hown, hG⟩ := id hF
  have hK := hG.K h0
  have hS : va_S (fun q => ow q = t ∨ ow q = u) s.heap s.heap [] := va_S.rf
  have hAo : ∀ q, q < X.z → ¬ (fun q => ow q = t ∨ ow q = u) q := fun q h9 (h8 : ow q = t ∨ ow q = u) => absurd (hz q h8) (by omega)
  refine lv_aload_n hx hb dX4_copyFrom_0 rfl (lv_at hl 0 rfl) ?_
  refine lv_aload_n hx hb dX4_copyFrom_1 rfl (lv_at hl 1 rfl) ?_
  refine g_get (ci := 3) (v := .int (nI (q.2 1))) h0 hF inX4 hU.1 2 rfl rfl 0 (by decide) wf_X4_39 rfl rfl dX4_copyFrom_2 ?_
  have htg := hT.tag 2 rfl
  refine g_put (ci := 3) h0 hF inX4 tyX4 tyX4_ok nmX4 hT hS (Or.inl htg) 2 rfl rfl 0 (by decide) wf_X4_39 rfl rfl (tyX4_ok 0 (by decide)) rfl rfl (Nat.le_of_ble_eq_true rfl) dX4_copyFrom_5 (fun H locs oq hT' hS => ?_)
  have hU := hU.fr1 oq (by rw [htg]; omega)
  have hT : Tw X ow t (skW X f (sC k 1 (q.2 1))) H := hT'.to (skC_1 X f k (q.2 1))
  refine lv_aload_n hx hb dX4_copyFrom_8 rfl (lv_at hl 1 rfl) ?_
  refine g_get (ci := 3) (v := .ref (g 9)) h0 hF inX4 hU.1 2 rfl rfl 1 (by decide) wf_X4_9 rfl rfl dX4_copyFrom_9 ?_
  refine lv_aload_n hx hb dX4_copyFrom_12 rfl (lv_at hl 0 rfl) ?_
  refine g_get (ci := 3) (v := .ref (f 9)) h0 hF inX4 hT.1 2 rfl rfl 1 (by decide) wf_X4_9 rfl rfl dX4_copyFrom_13 ?_
  refine core_m (A1 := fun q => ow q = t ∨ ow q = u) (grSN (Bh := (fun H => Tw X ow t (skW X f (sC k 1 (q.2 1))) H ∧ Tw X ow u (skW X g q) H)) (n := 2) (As := [.ref (g 9), .ref (f 9)]) (rest := []) h0 hF (m_X9_copyRow h0 (ow := ow) (t := t) (u := u) (ws := skW X f (sC k 1 (q.2 1))) (ws2 := skW X g q) (x := g 9) (y := f 9) (N := 5) (F := q.1 5) (G := k.1 5) htu 9 9 rfl rfl (by decide)) wmn_X4_43 wt_X9_copyRow wz_X9 wc_X9_copyRow ⟨by decide, by decide, by decide +kernel⟩ rfl ⟨Nat.le_of_ble_eq_true rfl, Nat.le_of_ble_eq_true rfl⟩ ⟨hT, hU⟩ hS hAo ⟨Nat.le_of_ble_eq_true rfl, Nat.le_of_ble_eq_true rfl⟩ hl.1 rfl (Nat.le_of_ble_eq_true rfl) dX4_copyFrom_16) hS (fun q (h8 : ow q = t ∨ ow q = u) => (show ow q = t ∨ ow q = u from by omega)) (fun v H locs hq hz1 hk1 hS => ?_)
  obtain ⟨rfl, hT', hU⟩ := hq
  have hT : Tw X ow t (skW X f (sR (sC k 1 (q.2 1)) 5 (q.1 5))) H := hT'.to (skR_5 X f (sC k 1 (q.2 1)) (q.1 5))
  refine lv_aload_n hx hb dX4_copyFrom_19 rfl (lv_at hl 1 rfl) ?_
  refine g_get (ci := 3) (v := .ref (g 10)) h0 hF inX4 hU.1 2 rfl rfl 2 (by decide) wf_X4_15 rfl rfl dX4_copyFrom_20 ?_
  refine lv_aload_n hx hb dX4_copyFrom_23 rfl (lv_at hl 0 rfl) ?_
  refine g_get (ci := 3) (v := .ref (f 10)) h0 hF inX4 hT.1 2 rfl rfl 2 (by decide) wf_X4_15 rfl rfl dX4_copyFrom_24 ?_
  refine core_m (A1 := fun q => ow q = t ∨ ow q = u) (grSN (Bh := (fun H => Tw X ow t (skW X f (sR (sC k 1 (q.2 1)) 5 (q.1 5))) H ∧ Tw X ow u (skW X g q) H)) (n := 2) (As := [.ref (g 10), .ref (f 10)]) (rest := []) h0 hF (m_X9_copyRow h0 (ow := ow) (t := t) (u := u) (ws := skW X f (sR (sC k 1 (q.2 1)) 5 (q.1 5))) (ws2 := skW X g q) (x := g 10) (y := f 10) (N := 5) (F := q.1 6) (G := k.1 6) htu 10 10 rfl rfl (by decide)) wmn_X4_43 wt_X9_copyRow wz_X9 wc_X9_copyRow ⟨by decide, by decide, by decide +kernel⟩ rfl ⟨Nat.le_of_ble_eq_true rfl, Nat.le_of_ble_eq_true rfl⟩ ⟨hT, hU⟩ hS hAo ⟨Nat.le_of_ble_eq_true rfl, Nat.le_of_ble_eq_true rfl⟩ hl.1 rfl (Nat.le_of_ble_eq_true rfl) dX4_copyFrom_27) hS (fun q (h8 : ow q = t ∨ ow q = u) => (show ow q = t ∨ ow q = u from by omega)) (fun v H locs hq hz1 hk1 hS => ?_)
  obtain ⟨rfl, hT', hU⟩ := hq
  have hT : Tw X ow t (skW X f (sR (sR (sC k 1 (q.2 1)) 5 (q.1 5)) 6 (q.1 6))) H := hT'.to (skR_6 X f (sR (sC k 1 (q.2 1)) 5 (q.1 5)) (q.1 6))
  refine lv_aload_n hx hb dX4_copyFrom_30 rfl (lv_at hl 1 rfl) ?_
  refine g_get (ci := 3) (v := .ref (g 11)) h0 hF inX4 hU.1 2 rfl rfl 3 (by decide) wf_X4_18 rfl rfl dX4_copyFrom_31 ?_
  refine lv_aload_n hx hb dX4_copyFrom_34 rfl (lv_at hl 0 rfl) ?_
  refine g_get (ci := 3) (v := .ref (f 11)) h0 hF inX4 hT.1 2 rfl rfl 3 (by decide) wf_X4_18 rfl rfl dX4_copyFrom_35 ?_
  refine core_m (A1 := fun q => ow q = t ∨ ow q = u) (grSN (Bh := (fun H => Tw X ow t (skW X f (sR (sR (sC k 1 (q.2 1)) 5 (q.1 5)) 6 (q.1 6))) H ∧ Tw X ow u (skW X g q) H)) (n := 2) (As := [.ref (g 11), .ref (f 11)]) (rest := []) h0 hF (m_X9_copyRow h0 (ow := ow) (t := t) (u := u) (ws := skW X f (sR (sR (sC k 1 (q.2 1)) 5 (q.1 5)) 6 (q.1 6))) (ws2 := skW X g q) (x := g 11) (y := f 11) (N := 5) (F := q.1 7) (G := k.1 7) htu 11 11 rfl rfl (by decide)) wmn_X4_43 wt_X9_copyRow wz_X9 wc_X9_copyRow ⟨by decide, by decide, by decide +kernel⟩ rfl ⟨Nat.le_of_ble_eq_true rfl, Nat.le_of_ble_eq_true rfl⟩ ⟨hT, hU⟩ hS hAo ⟨Nat.le_of_ble_eq_true rfl, Nat.le_of_ble_eq_true rfl⟩ hl.1 rfl (Nat.le_of_ble_eq_true rfl) dX4_copyFrom_38) hS (fun q (h8 : ow q = t ∨ ow q = u) => (show ow q = t ∨ ow q = u from by omega)) (fun v H locs hq hz1 hk1 hS => ?_)
  obtain ⟨rfl, hT', hU⟩ := hq
  have hT : Tw X ow t (skW X f (sR (sR (sR (sC k 1 (q.2 1)) 5 (q.1 5)) 6 (q.1 6)) 7 (q.1 7))) H := hT'.to (skR_7 X f (sR (sR (sC k 1 (q.2 1)) 5 (q.1 5)) 6 (q.1 6)) (q.1 7))
  refine lv_aload_n hx hb dX4_copyFrom_41 rfl (lv_at hl 1 rfl) ?_
  refine g_get (ci := 3) (v := .ref (g 12)) h0 hF inX4 hU.1 2 rfl rfl 4 (by decide) wf_X4_21 rfl rfl dX4_copyFrom_42 ?_
  refine lv_aload_n hx hb dX4_copyFrom_45 rfl (lv_at hl 0 rfl) ?_
  refine g_get (ci := 3) (v := .ref (f 12)) h0 hF inX4 hT.1 2 rfl rfl 4 (by decide) wf_X4_21 rfl rfl dX4_copyFrom_46 ?_
  refine core_m (A1 := fun q => ow q = t ∨ ow q = u) (grSN (Bh := (fun H => Tw X ow t (skW X f (sR (sR (sR (sC k 1 (q.2 1)) 5 (q.1 5)) 6 (q.1 6)) 7 (q.1 7))) H ∧ Tw X ow u (skW X g q) H)) (n := 2) (As := [.ref (g 12), .ref (f 12)]) (rest := []) h0 hF (m_X9_copyRow h0 (ow := ow) (t := t) (u := u) (ws := skW X f (sR (sR (sR (sC k 1 (q.2 1)) 5 (q.1 5)) 6 (q.1 6)) 7 (q.1 7))) (ws2 := skW X g q) (x := g 12) (y := f 12) (N := 5) (F := q.1 8) (G := k.1 8) htu 12 12 rfl rfl (by decide)) wmn_X4_43 wt_X9_copyRow wz_X9 wc_X9_copyRow ⟨by decide, by decide, by decide +kernel⟩ rfl ⟨Nat.le_of_ble_eq_true rfl, Nat.le_of_ble_eq_true rfl⟩ ⟨hT, hU⟩ hS hAo ⟨Nat.le_of_ble_eq_true rfl, Nat.le_of_ble_eq_true rfl⟩ hl.1 rfl (Nat.le_of_ble_eq_true rfl) dX4_copyFrom_49) hS (fun q (h8 : ow q = t ∨ ow q = u) => (show ow q = t ∨ ow q = u from by omega)) (fun v H locs hq hz1 hk1 hS => ?_)
  obtain ⟨rfl, hT', hU⟩ := hq
  have hT : Tw X ow t (skW X f (sR (sR (sR (sR (sC k 1 (q.2 1)) 5 (q.1 5)) 6 (q.1 6)) 7 (q.1 7)) 8 (q.1 8))) H := hT'.to (skR_8 X f (sR (sR (sR (sC k 1 (q.2 1)) 5 (q.1 5)) 6 (q.1 6)) 7 (q.1 7)) (q.1 8))
  refine lv_aload_n hx hb dX4_copyFrom_52 rfl (lv_at hl 1 rfl) ?_
  refine g_get (ci := 3) (v := .ref (g 13)) h0 hF inX4 hU.1 2 rfl rfl 5 (by decide) wf_X4_24 rfl rfl dX4_copyFrom_53 ?_
  refine lv_aload_n hx hb dX4_copyFrom_56 rfl (lv_at hl 0 rfl) ?_
  refine g_get (ci := 3) (v := .ref (f 13)) h0 hF inX4 hT.1 2 rfl rfl 5 (by decide) wf_X4_24 rfl rfl dX4_copyFrom_57 ?_
  refine core_m (A1 := fun q => ow q = t ∨ ow q = u) (grSN (Bh := (fun H => Tw X ow t (skW X f (sR (sR (sR (sR (sC k 1 (q.2 1)) 5 (q.1 5)) 6 (q.1 6)) 7 (q.1 7)) 8 (q.1 8))) H ∧ Tw X ow u (skW X g q) H)) (n := 2) (As := [.ref (g 13), .ref (f 13)]) (rest := []) h0 hF (m_X9_copyRow h0 (ow := ow) (t := t) (u := u) (ws := skW X f (sR (sR (sR (sR (sC k 1 (q.2 1)) 5 (q.1 5)) 6 (q.1 6)) 7 (q.1 7)) 8 (q.1 8))) (ws2 := skW X g q) (x := g 13) (y := f 13) (N := 5) (F := q.1 9) (G := k.1 9) htu 13 13 rfl rfl (by decide)) wmn_X4_43 wt_X9_copyRow wz_X9 wc_X9_copyRow ⟨by decide, by decide, by decide +kernel⟩ rfl ⟨Nat.le_of_ble_eq_true rfl, Nat.le_of_ble_eq_true rfl⟩ ⟨hT, hU⟩ hS hAo ⟨Nat.le_of_ble_eq_true rfl, Nat.le_of_ble_eq_true rfl⟩ hl.1 rfl (Nat.le_of_ble_eq_true rfl) dX4_copyFrom_60) hS (fun q (h8 : ow q = t ∨ ow q = u) => (show ow q = t ∨ ow q = u from by omega)) (fun v H locs hq hz1 hk1 hS => ?_)
  obtain ⟨rfl, hT', hU⟩ := hq
  have hT : Tw X ow t (skW X f (sR (sR (sR (sR (sR (sC k 1 (q.2 1)) 5 (q.1 5)) 6 (q.1 6)) 7 (q.1 7)) 8 (q.1 8)) 9 (q.1 9))) H := hT'.to (skR_9 X f (sR (sR (sR (sR (sC k 1 (q.2 1)) 5 (q.1 5)) 6 (q.1 6)) 7 (q.1 7)) 8 (q.1 8)) (q.1 9))
  refine lv_aload_n hx hb dX4_copyFrom_63 rfl (lv_at hl 1 rfl) ?_
  refine g_get (ci := 3) (v := .ref (g 14)) h0 hF inX4 hU.1 2 rfl rfl 6 (by decide) wf_X4_27 rfl rfl dX4_copyFrom_64 ?_
  refine lv_aload_n hx hb dX4_copyFrom_67 rfl (lv_at hl 0 rfl) ?_
  refine g_get (ci := 3) (v := .ref (f 14)) h0 hF inX4 hT.1 2 rfl rfl 6 (by decide) wf_X4_27 rfl rfl dX4_copyFrom_68 ?_
  refine core_m (A1 := fun q => ow q = t ∨ ow q = u) (grSN (Bh := (fun H => Tw X ow t (skW X f (sR (sR (sR (sR (sR (sC k 1 (q.2 1)) 5 (q.1 5)) 6 (q.1 6)) 7 (q.1 7)) 8 (q.1 8)) 9 (q.1 9))) H ∧ Tw X ow u (skW X g q) H)) (n := 2) (As := [.ref (g 14), .ref (f 14)]) (rest := []) h0 hF (m_X9_copyRow h0 (ow := ow) (t := t) (u := u) (ws := skW X f (sR (sR (sR (sR (sR (sC k 1 (q.2 1)) 5 (q.1 5)) 6 (q.1 6)) 7 (q.1 7)) 8 (q.1 8)) 9 (q.1 9))) (ws2 := skW X g q) (x := g 14) (y := f 14) (N := 5) (F := q.1 10) (G := k.1 10) htu 14 14 rfl rfl (by decide)) wmn_X4_43 wt_X9_copyRow wz_X9 wc_X9_copyRow ⟨by decide, by decide, by decide +kernel⟩ rfl ⟨Nat.le_of_ble_eq_true rfl, Nat.le_of_ble_eq_true rfl⟩ ⟨hT, hU⟩ hS hAo ⟨Nat.le_of_ble_eq_true rfl, Nat.le_of_ble_eq_true rfl⟩ hl.1 rfl (Nat.le_of_ble_eq_true rfl) dX4_copyFrom_71) hS (fun q (h8 : ow q = t ∨ ow q = u) => (show ow q = t ∨ ow q = u from by omega)) (fun v H locs hq hz1 hk1 hS => ?_)
  obtain ⟨rfl, hT', hU⟩ := hq
  have hT : Tw X ow t (skW X f (sR (sR (sR (sR (sR (sR (sC k 1 (q.2 1)) 5 (q.1 5)) 6 (q.1 6)) 7 (q.1 7)) 8 (q.1 8)) 9 (q.1 9)) 10 (q.1 10))) H := hT'.to (skR_10 X f (sR (sR (sR (sR (sR (sC k 1 (q.2 1)) 5 (q.1 5)) 6 (q.1 6)) 7 (q.1 7)) 8 (q.1 8)) 9 (q.1 9)) (q.1 10))
  refine lv_aload_n hx hb dX4_copyFrom_74 rfl (lv_at hl 1 rfl) ?_
  refine g_get (ci := 3) (v := .ref (g 15)) h0 hF inX4 hU.1 2 rfl rfl 7 (by decide) wf_X4_30 rfl rfl dX4_copyFrom_75 ?_
  refine lv_aload_n hx hb dX4_copyFrom_78 rfl (lv_at hl 0 rfl) ?_
  refine g_get (ci := 3) (v := .ref (f 15)) h0 hF inX4 hT.1 2 rfl rfl 7 (by decide) wf_X4_30 rfl rfl dX4_copyFrom_79 ?_
  refine core_m (A1 := fun q => ow q = t ∨ ow q = u) (grSN (Bh := (fun H => Tw X ow t (skW X f (sR (sR (sR (sR (sR (sR (sC k 1 (q.2 1)) 5 (q.1 5)) 6 (q.1 6)) 7 (q.1 7)) 8 (q.1 8)) 9 (q.1 9)) 10 (q.1 10))) H ∧ Tw X ow u (skW X g q) H)) (n := 2) (As := [.ref (g 15), .ref (f 15)]) (rest := []) h0 hF (m_X9_copyRow h0 (ow := ow) (t := t) (u := u) (ws := skW X f (sR (sR (sR (sR (sR (sR (sC k 1 (q.2 1)) 5 (q.1 5)) 6 (q.1 6)) 7 (q.1 7)) 8 (q.1 8)) 9 (q.1 9)) 10 (q.1 10))) (ws2 := skW X g q) (x := g 15) (y := f 15) (N := 5) (F := q.1 11) (G := k.1 11) htu 15 15 rfl rfl (by decide)) wmn_X4_43 wt_X9_copyRow wz_X9 wc_X9_copyRow ⟨by decide, by decide, by decide +kernel⟩ rfl ⟨Nat.le_of_ble_eq_true rfl, Nat.le_of_ble_eq_true rfl⟩ ⟨hT, hU⟩ hS hAo ⟨Nat.le_of_ble_eq_true rfl, Nat.le_of_ble_eq_true rfl⟩ hl.1 rfl (Nat.le_of_ble_eq_true rfl) dX4_copyFrom_82) hS (fun q (h8 : ow q = t ∨ ow q = u) => (show ow q = t ∨ ow q = u from by omega)) (fun v H locs hq hz1 hk1 hS => ?_)
  obtain ⟨rfl, hT', hU⟩ := hq
  have hT : Tw X ow t (skW X f (sR (sR (sR (sR (sR (sR (sR (sC k 1 (q.2 1)) 5 (q.1 5)) 6 (q.1 6)) 7 (q.1 7)) 8 (q.1 8)) 9 (q.1 9)) 10 (q.1 10)) 11 (q.1 11))) H := hT'.to (skR_11 X f (sR (sR (sR (sR (sR (sR (sC k 1 (q.2 1)) 5 (q.1 5)) 6 (q.1 6)) 7 (q.1 7)) 8 (q.1 8)) 9 (q.1 9)) 10 (q.1 10)) (q.1 11))
  refine lv_aload_n hx hb dX4_copyFrom_85 rfl (lv_at hl 1 rfl) ?_
  refine g_get (ci := 3) (v := .ref (g 16)) h0 hF inX4 hU.1 2 rfl rfl 8 (by decide) wf_X4_33 rfl rfl dX4_copyFrom_86 ?_
  refine lv_aload_n hx hb dX4_copyFrom_89 rfl (lv_at hl 0 rfl) ?_
  refine g_get (ci := 3) (v := .ref (f 16)) h0 hF inX4 hT.1 2 rfl rfl 8 (by decide) wf_X4_33 rfl rfl dX4_copyFrom_90 ?_
  refine core_m (A1 := fun q => ow q = t ∨ ow q = u) (grSN (Bh := (fun H => Tw X ow t (skW X f (sR (sR (sR (sR (sR (sR (sR (sC k 1 (q.2 1)) 5 (q.1 5)) 6 (q.1 6)) 7 (q.1 7)) 8 (q.1 8)) 9 (q.1 9)) 10 (q.1 10)) 11 (q.1 11))) H ∧ Tw X ow u (skW X g q) H)) (n := 2) (As := [.ref (g 16), .ref (f 16)]) (rest := []) h0 hF (m_X9_copyRow h0 (ow := ow) (t := t) (u := u) (ws := skW X f (sR (sR (sR (sR (sR (sR (sR (sC k 1 (q.2 1)) 5 (q.1 5)) 6 (q.1 6)) 7 (q.1 7)) 8 (q.1 8)) 9 (q.1 9)) 10 (q.1 10)) 11 (q.1 11))) (ws2 := skW X g q) (x := g 16) (y := f 16) (N := 5) (F := q.1 12) (G := k.1 12) htu 16 16 rfl rfl (by decide)) wmn_X4_43 wt_X9_copyRow wz_X9 wc_X9_copyRow ⟨by decide, by decide, by decide +kernel⟩ rfl ⟨Nat.le_of_ble_eq_true rfl, Nat.le_of_ble_eq_true rfl⟩ ⟨hT, hU⟩ hS hAo ⟨Nat.le_of_ble_eq_true rfl, Nat.le_of_ble_eq_true rfl⟩ hl.1 rfl (Nat.le_of_ble_eq_true rfl) dX4_copyFrom_93) hS (fun q (h8 : ow q = t ∨ ow q = u) => (show ow q = t ∨ ow q = u from by omega)) (fun v H locs hq hz1 hk1 hS => ?_)
  obtain ⟨rfl, hT', hU⟩ := hq
  have hT : Tw X ow t (skW X f (sR (sR (sR (sR (sR (sR (sR (sR (sC k 1 (q.2 1)) 5 (q.1 5)) 6 (q.1 6)) 7 (q.1 7)) 8 (q.1 8)) 9 (q.1 9)) 10 (q.1 10)) 11 (q.1 11)) 12 (q.1 12))) H := hT'.to (skR_12 X f (sR (sR (sR (sR (sR (sR (sR (sC k 1 (q.2 1)) 5 (q.1 5)) 6 (q.1 6)) 7 (q.1 7)) 8 (q.1 8)) 9 (q.1 9)) 10 (q.1 10)) 11 (q.1 11)) (q.1 12))
  refine lv_aload_n hx hb dX4_copyFrom_96 rfl (lv_at hl 1 rfl) ?_
  refine g_get (ci := 3) (v := .ref (g 17)) h0 hF inX4 hU.1 2 rfl rfl 9 (by decide) wf_X4_36 rfl rfl dX4_copyFrom_97 ?_
  refine lv_aload_n hx hb dX4_copyFrom_100 rfl (lv_at hl 0 rfl) ?_
  refine g_get (ci := 3) (v := .ref (f 17)) h0 hF inX4 hT.1 2 rfl rfl 9 (by decide) wf_X4_36 rfl rfl dX4_copyFrom_101 ?_
  refine core_m (A1 := fun q => ow q = t ∨ ow q = u) (grSN (Bh := (fun H => Tw X ow t (skW X f (sR (sR (sR (sR (sR (sR (sR (sR (sC k 1 (q.2 1)) 5 (q.1 5)) 6 (q.1 6)) 7 (q.1 7)) 8 (q.1 8)) 9 (q.1 9)) 10 (q.1 10)) 11 (q.1 11)) 12 (q.1 12))) H ∧ Tw X ow u (skW X g q) H)) (n := 2) (As := [.ref (g 17), .ref (f 17)]) (rest := []) h0 hF (m_X9_copyRow h0 (ow := ow) (t := t) (u := u) (ws := skW X f (sR (sR (sR (sR (sR (sR (sR (sR (sC k 1 (q.2 1)) 5 (q.1 5)) 6 (q.1 6)) 7 (q.1 7)) 8 (q.1 8)) 9 (q.1 9)) 10 (q.1 10)) 11 (q.1 11)) 12 (q.1 12))) (ws2 := skW X g q) (x := g 17) (y := f 17) (N := 5) (F := q.1 13) (G := k.1 13) htu 17 17 rfl rfl (by decide)) wmn_X4_43 wt_X9_copyRow wz_X9 wc_X9_copyRow ⟨by decide, by decide, by decide +kernel⟩ rfl ⟨Nat.le_of_ble_eq_true rfl, Nat.le_of_ble_eq_true rfl⟩ ⟨hT, hU⟩ hS hAo ⟨Nat.le_of_ble_eq_true rfl, Nat.le_of_ble_eq_true rfl⟩ hl.1 rfl (Nat.le_of_ble_eq_true rfl) dX4_copyFrom_104) hS (fun q (h8 : ow q = t ∨ ow q = u) => (show ow q = t ∨ ow q = u from by omega)) (fun v H locs hq hz1 hk1 hS => ?_)
  obtain ⟨rfl, hT', hU⟩ := hq
  have hT : Tw X ow t (skW X f (sR (sR (sR (sR (sR (sR (sR (sR (sR (sC k 1 (q.2 1)) 5 (q.1 5)) 6 (q.1 6)) 7 (q.1 7)) 8 (q.1 8)) 9 (q.1 9)) 10 (q.1 10)) 11 (q.1 11)) 12 (q.1 12)) 13 (q.1 13))) H := hT'.to (skR_13 X f (sR (sR (sR (sR (sR (sR (sR (sR (sC k 1 (q.2 1)) 5 (q.1 5)) 6 (q.1 6)) 7 (q.1 7)) 8 (q.1 8)) 9 (q.1 9)) 10 (q.1 10)) 11 (q.1 11)) 12 (q.1 12)) (q.1 13))
  exact mm_vret hF hS dX4_copyFrom_107 (⟨rfl, hT.to (skT X f (by intro r hr; match r, hr with | 0, _ => rfl | 1, _ => rfl | 2, _ => rfl | 3, _ => rfl | 4, _ => rfl | 5, _ => rfl | 6, _ => rfl | 7, _ => rfl | 8, _ => rfl | 9, _ => rfl | 10, _ => rfl | 11, _ => rfl | 12, _ => rfl | 13, _ => rfl | 14, _ => rfl | 15, _ => rfl | 16, _ => rfl | 17, _ => rfl | 18, _ => rfl | n + 19, hr => exact absurd hr (by omega)) rfl rfl (by intro i hi; match i, hi with | 0, _ => rfl | 1, _ => rfl | 2, _ => rfl | n + 3, hi => exact absurd hi (by omega))), hU⟩)

set_option maxHeartbeats 4000000 in
set_option maxRecDepth 100000 in
theorem m_X7_copyFrom {X : Cx} {l : Launch} (h0 : Init X) {ow : Nat → Nat} {t u : Nat} {f g : Nat → Nat} {k q : Sk} (htu : t ≠ u) (hz : ∀ q, ow q = t ∨ ow q = u → X.z ≤ q) : MM X l yX7_copyFrom cX7_copyFrom 2 none 2 81 0 0 [.ref (f 3), .ref (g 3)] (fun H => Tw X ow t (skW X f k) H ∧ Tw X ow u (skW X g q) H) (fun v H => v = none ∧ Tw X ow t (skW X f (cpW k q)) H ∧ Tw X ow u (skW X g q) H) (fun q => ow q = t ∨ ow q = u) := by
  refine Met.mk (Bh := (fun H => Tw X ow t (skW X f k) H ∧ Tw X ow u (skW X g q) H)) (by decide) (Nat.le_of_ble_eq_true rfl) ?_
  intro p e s m below meth c ls hF hB hl
  obtain ⟨hT, hU⟩ := hB
  have hl : lv_has ls 2 [(0, .ref (f 3)), (1, .ref (g 3))] := hl
  obtain ⟨hx, hb, hml, hr, hlk, hown, hG⟩ := id hF
  have hK := hG.K h0
  have hS : va_S (fun q => ow q = t ∨ ow q = u) s.heap s.heap [] := va_S.rf
  have hAo : ∀ q, q < X.z → ¬ (fun q => ow q = t ∨ ow q = u) q := fun q h9 (h8 : ow q = t ∨ ow q = u) => absurd (hz q h8) (by omega)
  refine lv_aload_n hx hb dX7_copyFrom_0 rfl (lv_at hl 0 rfl) ?_
  refine lv_aload_n hx hb dX7_copyFrom_1 rfl (lv_at hl 1 rfl) ?_
  refine g_get (ci := 6) (v := .int (nI (q.2 2))) h0 hF inX7 hU.1 3 rfl rfl 0 (by decide) wf_X7_27 rfl rfl dX7_copyFrom_2 ?_
  have htg := hT.tag 3 rfl
  refine g_put (ci := 6) h0 hF inX7 tyX7 tyX7_ok nmX7 hT hS (Or.inl htg) 3 rfl rfl 0 (by decide) wf_X7_27 rfl rfl (tyX7_ok 0 (by decide)) rfl rfl (Nat.le_of_ble_eq_true rfl) dX7_copyFrom_5 (fun H locs oq hT' hS => ?_)
  have hU := hU.fr1 oq (by rw [htg]; omega)
  have hT : Tw X ow t (skW X f (sC k 2 (q.2 2))) H := hT'.to (skC_2 X f k (q.2 2))
  refine lv_aload_n hx hb dX7_copyFrom_8 rfl (lv_at hl 1 rfl) ?_
  refine g_get (ci := 6) (v := .ref (g 18)) h0 hF inX7 hU.1 3 rfl rfl 1 (by decide) wf_X7_9 rfl rfl dX7_copyFrom_9 ?_
  refine lv_aload_n hx hb dX7_copyFrom_12 rfl (lv_at hl 0 rfl) ?_
  refine g_get (ci := 6) (v := .ref (f 18)) h0 hF inX7 hT.1 3 rfl rfl 1 (by decide) wf_X7_9 rfl rfl dX7_copyFrom_13 ?_
  refine core_m (A1 := fun q => ow q = t ∨ ow q = u) (grSN (Bh := (fun H => Tw X ow t (skW X f (sC k 2 (q.2 2))) H ∧ Tw X ow u (skW X g q) H)) (n := 2) (As := [.ref (g 18), .ref (f 18)]) (rest := []) h0 hF (m_X9_copyRow h0 (ow := ow) (t := t) (u := u) (ws := skW X f (sC k 2 (q.2 2))) (ws2 := skW X g q) (x := g 18) (y := f 18) (N := 8) (F := q.1 14) (G := k.1 14) htu 18 18 rfl rfl (by decide)) wmn_X7_31 wt_X9_copyRow wz_X9 wc_X9_copyRow ⟨by decide, by decide, by decide +kernel⟩ rfl ⟨Nat.le_of_ble_eq_true rfl, Nat.le_of_ble_eq_true rfl⟩ ⟨hT, hU⟩ hS hAo ⟨Nat.le_of_ble_eq_true rfl, Nat.le_of_ble_eq_true rfl⟩ hl.1 rfl (Nat.le_of_ble_eq_true rfl) dX7_copyFrom_16) hS (fun q (h8 : ow q = t ∨ ow q = u) => (show ow q = t ∨ ow q = u from by omega)) (fun v H locs hq hz1 hk1 hS => ?_)
  obtain ⟨rfl, hT', hU⟩ := hq
  have hT : Tw X ow t (skW X f (sR (sC k 2 (q.2 2)) 14 (q.1 14))) H := hT'.to (skR_14 X f (sC k 2 (q.2 2)) (q.1 14))
  refine lv_aload_n hx hb dX7_copyFrom_19 rfl (lv_at hl 1 rfl) ?_
  refine g_get (ci := 6) (v := .ref (g 19)) h0 hF inX7 hU.1 3 rfl rfl 2 (by decide) wf_X7_15 rfl rfl dX7_copyFrom_20 ?_
  refine lv_aload_n hx hb dX7_copyFrom_23 rfl (lv_at hl 0 rfl) ?_
  refine g_get (ci := 6) (v := .ref (f 19)) h0 hF inX7 hT.1 3 rfl rfl 2 (by decide) wf_X7_15 rfl rfl dX7_copyFrom_24 ?_
  refine core_m (A1 := fun q => ow q = t ∨ ow q = u) (grSN (Bh := (fun H => Tw X ow t (skW X f (sR (sC k 2 (q.2 2)) 14 (q.1 14))) H ∧ Tw X ow u (skW X g q) H)) (n := 2) (As := [.ref (g 19), .ref (f 19)]) (rest := []) h0 hF (m_X9_copyRow h0 (ow := ow) (t := t) (u := u) (ws := skW X f (sR (sC k 2 (q.2 2)) 14 (q.1 14))) (ws2 := skW X g q) (x := g 19) (y := f 19) (N := 8) (F := q.1 15) (G := k.1 15) htu 19 19 rfl rfl (by decide)) wmn_X7_31 wt_X9_copyRow wz_X9 wc_X9_copyRow ⟨by decide, by decide, by decide +kernel⟩ rfl ⟨Nat.le_of_ble_eq_true rfl, Nat.le_of_ble_eq_true rfl⟩ ⟨hT, hU⟩ hS hAo ⟨Nat.le_of_ble_eq_true rfl, Nat.le_of_ble_eq_true rfl⟩ hl.1 rfl (Nat.le_of_ble_eq_true rfl) dX7_copyFrom_27) hS (fun q (h8 : ow q = t ∨ ow q = u) => (show ow q = t ∨ ow q = u from by omega)) (fun v H locs hq hz1 hk1 hS => ?_)
  obtain ⟨rfl, hT', hU⟩ := hq
  have hT : Tw X ow t (skW X f (sR (sR (sC k 2 (q.2 2)) 14 (q.1 14)) 15 (q.1 15))) H := hT'.to (skR_15 X f (sR (sC k 2 (q.2 2)) 14 (q.1 14)) (q.1 15))
  refine lv_aload_n hx hb dX7_copyFrom_30 rfl (lv_at hl 1 rfl) ?_
  refine g_get (ci := 6) (v := .ref (g 20)) h0 hF inX7 hU.1 3 rfl rfl 3 (by decide) wf_X7_18 rfl rfl dX7_copyFrom_31 ?_
  refine lv_aload_n hx hb dX7_copyFrom_34 rfl (lv_at hl 0 rfl) ?_
  refine g_get (ci := 6) (v := .ref (f 20)) h0 hF inX7 hT.1 3 rfl rfl 3 (by decide) wf_X7_18 rfl rfl dX7_copyFrom_35 ?_
  refine core_m (A1 := fun q => ow q = t ∨ ow q = u) (grSN (Bh := (fun H => Tw X ow t (skW X f (sR (sR (sC k 2 (q.2 2)) 14 (q.1 14)) 15 (q.1 15))) H ∧ Tw X ow u (skW X g q) H)) (n := 2) (As := [.ref (g 20), .ref (f 20)]) (rest := []) h0 hF (m_X9_copyRow h0 (ow := ow) (t := t) (u := u) (ws := skW X f (sR (sR (sC k 2 (q.2 2)) 14 (q.1 14)) 15 (q.1 15))) (ws2 := skW X g q) (x := g 20) (y := f 20) (N := 8) (F := q.1 16) (G := k.1 16) htu 20 20 rfl rfl (by decide)) wmn_X7_31 wt_X9_copyRow wz_X9 wc_X9_copyRow ⟨by decide, by decide, by decide +kernel⟩ rfl ⟨Nat.le_of_ble_eq_true rfl, Nat.le_of_ble_eq_true rfl⟩ ⟨hT, hU⟩ hS hAo ⟨Nat.le_of_ble_eq_true rfl, Nat.le_of_ble_eq_true rfl⟩ hl.1 rfl (Nat.le_of_ble_eq_true rfl) dX7_copyFrom_38) hS (fun q (h8 : ow q = t ∨ ow q = u) => (show ow q = t ∨ ow q = u from by omega)) (fun v H locs hq hz1 hk1 hS => ?_)
  obtain ⟨rfl, hT', hU⟩ := hq
  have hT : Tw X ow t (skW X f (sR (sR (sR (sC k 2 (q.2 2)) 14 (q.1 14)) 15 (q.1 15)) 16 (q.1 16))) H := hT'.to (skR_16 X f (sR (sR (sC k 2 (q.2 2)) 14 (q.1 14)) 15 (q.1 15)) (q.1 16))
  refine lv_aload_n hx hb dX7_copyFrom_41 rfl (lv_at hl 1 rfl) ?_
  refine g_get (ci := 6) (v := .ref (g 21)) h0 hF inX7 hU.1 3 rfl rfl 4 (by decide) wf_X7_21 rfl rfl dX7_copyFrom_42 ?_
  refine lv_aload_n hx hb dX7_copyFrom_45 rfl (lv_at hl 0 rfl) ?_
  refine g_get (ci := 6) (v := .ref (f 21)) h0 hF inX7 hT.1 3 rfl rfl 4 (by decide) wf_X7_21 rfl rfl dX7_copyFrom_46 ?_
  refine core_m (A1 := fun q => ow q = t ∨ ow q = u) (grSN (Bh := (fun H => Tw X ow t (skW X f (sR (sR (sR (sC k 2 (q.2 2)) 14 (q.1 14)) 15 (q.1 15)) 16 (q.1 16))) H ∧ Tw X ow u (skW X g q) H)) (n := 2) (As := [.ref (g 21), .ref (f 21)]) (rest := []) h0 hF (m_X9_copyRow h0 (ow := ow) (t := t) (u := u) (ws := skW X f (sR (sR (sR (sC k 2 (q.2 2)) 14 (q.1 14)) 15 (q.1 15)) 16 (q.1 16))) (ws2 := skW X g q) (x := g 21) (y := f 21) (N := 8) (F := q.1 17) (G := k.1 17) htu 21 21 rfl rfl (by decide)) wmn_X7_31 wt_X9_copyRow wz_X9 wc_X9_copyRow ⟨by decide, by decide, by decide +kernel⟩ rfl ⟨Nat.le_of_ble_eq_true rfl, Nat.le_of_ble_eq_true rfl⟩ ⟨hT, hU⟩ hS hAo ⟨Nat.le_of_ble_eq_true rfl, Nat.le_of_ble_eq_true rfl⟩ hl.1 rfl (Nat.le_of_ble_eq_true rfl) dX7_copyFrom_49) hS (fun q (h8 : ow q = t ∨ ow q = u) => (show ow q = t ∨ ow q = u from by omega)) (fun v H locs hq hz1 hk1 hS => ?_)
  obtain ⟨rfl, hT', hU⟩ := hq
  have hT : Tw X ow t (skW X f (sR (sR (sR (sR (sC k 2 (q.2 2)) 14 (q.1 14)) 15 (q.1 15)) 16 (q.1 16)) 17 (q.1 17))) H := hT'.to (skR_17 X f (sR (sR (sR (sC k 2 (q.2 2)) 14 (q.1 14)) 15 (q.1 15)) 16 (q.1 16)) (q.1 17))
  refine lv_aload_n hx hb dX7_copyFrom_52 rfl (lv_at hl 1 rfl) ?_
  refine g_get (ci := 6) (v := .ref (g 22)) h0 hF inX7 hU.1 3 rfl rfl 5 (by decide) wf_X7_24 rfl rfl dX7_copyFrom_53 ?_
  refine lv_aload_n hx hb dX7_copyFrom_56 rfl (lv_at hl 0 rfl) ?_
  refine g_get (ci := 6) (v := .ref (f 22)) h0 hF inX7 hT.1 3 rfl rfl 5 (by decide) wf_X7_24 rfl rfl dX7_copyFrom_57 ?_
  refine core_m (A1 := fun q => ow q = t ∨ ow q = u) (grSN (Bh := (fun H => Tw X ow t (skW X f (sR (sR (sR (sR (sC k 2 (q.2 2)) 14 (q.1 14)) 15 (q.1 15)) 16 (q.1 16)) 17 (q.1 17))) H ∧ Tw X ow u (skW X g q) H)) (n := 2) (As := [.ref (g 22), .ref (f 22)]) (rest := []) h0 hF (m_X9_copyRow h0 (ow := ow) (t := t) (u := u) (ws := skW X f (sR (sR (sR (sR (sC k 2 (q.2 2)) 14 (q.1 14)) 15 (q.1 15)) 16 (q.1 16)) 17 (q.1 17))) (ws2 := skW X g q) (x := g 22) (y := f 22) (N := 8) (F := q.1 18) (G := k.1 18) htu 22 22 rfl rfl (by decide)) wmn_X7_31 wt_X9_copyRow wz_X9 wc_X9_copyRow ⟨by decide, by decide, by decide +kernel⟩ rfl ⟨Nat.le_of_ble_eq_true rfl, Nat.le_of_ble_eq_true rfl⟩ ⟨hT, hU⟩ hS hAo ⟨Nat.le_of_ble_eq_true rfl, Nat.le_of_ble_eq_true rfl⟩ hl.1 rfl (Nat.le_of_ble_eq_true rfl) dX7_copyFrom_60) hS (fun q (h8 : ow q = t ∨ ow q = u) => (show ow q = t ∨ ow q = u from by omega)) (fun v H locs hq hz1 hk1 hS => ?_)
  obtain ⟨rfl, hT', hU⟩ := hq
  have hT : Tw X ow t (skW X f (sR (sR (sR (sR (sR (sC k 2 (q.2 2)) 14 (q.1 14)) 15 (q.1 15)) 16 (q.1 16)) 17 (q.1 17)) 18 (q.1 18))) H := hT'.to (skR_18 X f (sR (sR (sR (sR (sC k 2 (q.2 2)) 14 (q.1 14)) 15 (q.1 15)) 16 (q.1 16)) 17 (q.1 17)) (q.1 18))
  exact mm_vret hF hS dX7_copyFrom_63 (⟨rfl, hT.to (skT X f (by intro r hr; match r, hr with | 0, _ => rfl | 1, _ => rfl | 2, _ => rfl | 3, _ => rfl | 4, _ => rfl | 5, _ => rfl | 6, _ => rfl | 7, _ => rfl | 8, _ => rfl | 9, _ => rfl | 10, _ => rfl | 11, _ => rfl | 12, _ => rfl | 13, _ => rfl | 14, _ => rfl | 15, _ => rfl | 16, _ => rfl | 17, _ => rfl | 18, _ => rfl | n + 19, hr => exact absurd hr (by omega)) rfl rfl (by intro i hi; match i, hi with | 0, _ => rfl | 1, _ => rfl | 2, _ => rfl | n + 3, hi => exact absurd hi (by omega))), hU⟩)

set_option maxHeartbeats 4000000 in
set_option maxRecDepth 100000 in
theorem m_X5_copyFrom {X : Cx} {l : Launch} (h0 : Init X) {ow : Nat → Nat} {t u : Nat} {f g : Nat → Nat} {k q : Sk} (htu : t ≠ u) (hz : ∀ q, ow q = t ∨ ow q = u → X.z ≤ q) : MM X l yX5_copyFrom cX5_copyFrom 2 none 3 102 0 0 [.ref (f 0), .ref (g 0)] (fun H => Tw X ow t (skW X f k) H ∧ Tw X ow u (skW X g q) H) (fun v H => v = none ∧ Tw X ow t (skW X f (q)) H ∧ Tw X ow u (skW X g q) H) (fun q => ow q = t ∨ ow q = u) := by
  refine Met.mk (Bh := (fun H => Tw X ow t (skW X f k) H ∧ Tw X ow u (skW X g q) H)) (by decide) (Nat.le_of_ble_eq_true rfl) ?_
  intro p e s m below meth c ls hF hB hl
  obtain ⟨hT, hU⟩ := hB
  have hl : lv_has ls 2 [(0, .ref (f 0)), (1, .ref (g 0))] := hl
  obtain ⟨hx, hb, hml, hr, hlk, hown, hG⟩ := id hF
  have hK := hG.K h0
  have hS : va_S (fun q => ow q = t ∨ ow q = u) s.heap s.heap [] := va_S.rf
  have hAo : ∀ q, q < X.z → ¬ (fun q => ow q = t ∨ ow q = u) q := fun q h9 (h8 : ow q = t ∨ ow q = u) => absurd (hz q h8) (by omega)
  refine lv_aload_n hx hb dX5_copyFrom_0 rfl (lv_at hl 0 rfl) ?_
  refine g_get (ci := 4) (v := .ref (f 1)) h0 hF inX5 hT.1 0 rfl rfl 0 (by decide) wf_X5_12 rfl rfl dX5_copyFrom_1 ?_
  refine lv_aload_n hx hb dX5_copyFrom_4 rfl (lv_at hl 1 rfl) ?_
  refine g_get (ci := 4) (v := .ref (g 1)) h0 hF inX5 hU.1 0 rfl rfl 0 (by decide) wf_X5_12 rfl rfl dX5_copyFrom_5 ?_
  refine core_m (A1 := fun q => ow q = t ∨ ow q = u) (grV (Bh := (fun H => Tw X ow t (skW X f k) H ∧ Tw X ow u (skW X g q) H)) (n := 1) (As := [.ref (g 1)]) (rest := []) h0 hF (m_X6_copyFrom h0 (ow := ow) (t := t) (u := u) (f := f) (g := g) (k := k) (q := q) htu (fun q h9 => hz q (by omega))) wm_X5_44 wo_X6_copyFrom ws_X6__X6_copyFrom wz_X6 wc_X6_copyFrom ⟨by decide, by decide, by decide +kernel⟩ rfl ⟨Nat.le_of_ble_eq_true rfl, Nat.le_of_ble_eq_true rfl⟩ (ci := 5) ⟨_, hT.1 1 _ rfl⟩ rfl ⟨hT, hU⟩ hS hAo ⟨Nat.le_of_ble_eq_true rfl, Nat.le_of_ble_eq_true rfl⟩ hl.1 rfl (Nat.le_of_ble_eq_true rfl) dX5_copyFrom_8) hS (fun q (h8 : ow q = t ∨ ow q = u) => (show ow q = t ∨ ow q = u from by omega)) (fun v H locs hq hz1 hk1 hS => ?_)
  obtain ⟨rfl, hT, hU⟩ := hq
  have hT : Tw X ow t (skW X f (cpS k q)) H := hT
  refine lv_aload_n hx hb dX5_copyFrom_11 rfl (lv_at hl 0 rfl) ?_
  refine g_get (ci := 4) (v := .ref (f 2)) h0 hF inX5 hT.1 0 rfl rfl 1 (by decide) wf_X5_21 rfl rfl dX5_copyFrom_12 ?_
  refine lv_aload_n hx hb dX5_copyFrom_15 rfl (lv_at hl 1 rfl) ?_
  refine g_get (ci := 4) (v := .ref (g 2)) h0 hF inX5 hU.1 0 rfl rfl 1 (by decide) wf_X5_21 rfl rfl dX5_copyFrom_16 ?_
  refine core_m (A1 := fun q => ow q = t ∨ ow q = u) (grV (Bh := (fun H => Tw X ow t (skW X f (cpS k q)) H ∧ Tw X ow u (skW X g q) H)) (n := 1) (As := [.ref (g 2)]) (rest := []) h0 hF (m_X4_copyFrom h0 (ow := ow) (t := t) (u := u) (f := f) (g := g) (k := (cpS k q)) (q := q) htu (fun q h9 => hz q (by omega))) wm_X5_48 wo_X4_copyFrom ws_X4__X4_copyFrom wz_X4 wc_X4_copyFrom ⟨by decide, by decide, by decide +kernel⟩ rfl ⟨Nat.le_of_ble_eq_true rfl, Nat.le_of_ble_eq_true rfl⟩ (ci := 3) ⟨_, hT.1 2 _ rfl⟩ rfl ⟨hT, hU⟩ hS hAo ⟨Nat.le_of_ble_eq_true rfl, Nat.le_of_ble_eq_true rfl⟩ hl.1 rfl (Nat.le_of_ble_eq_true rfl) dX5_copyFrom_19) hS (fun q (h8 : ow q = t ∨ ow q = u) => (show ow q = t ∨ ow q = u from by omega)) (fun v H locs hq hz1 hk1 hS => ?_)
  obtain ⟨rfl, hT, hU⟩ := hq
  have hT : Tw X ow t (skW X f (cpR (cpS k q) q)) H := hT
  refine lv_aload_n hx hb dX5_copyFrom_22 rfl (lv_at hl 0 rfl) ?_
  refine g_get (ci := 4) (v := .ref (f 3)) h0 hF inX5 hT.1 0 rfl rfl 2 (by decide) wf_X5_28 rfl rfl dX5_copyFrom_23 ?_
  refine lv_aload_n hx hb dX5_copyFrom_26 rfl (lv_at hl 1 rfl) ?_
  refine g_get (ci := 4) (v := .ref (g 3)) h0 hF inX5 hU.1 0 rfl rfl 2 (by decide) wf_X5_28 rfl rfl dX5_copyFrom_27 ?_
  refine core_m (A1 := fun q => ow q = t ∨ ow q = u) (grV (Bh := (fun H => Tw X ow t (skW X f (cpR (cpS k q) q)) H ∧ Tw X ow u (skW X g q) H)) (n := 1) (As := [.ref (g 3)]) (rest := []) h0 hF (m_X7_copyFrom h0 (ow := ow) (t := t) (u := u) (f := f) (g := g) (k := (cpR (cpS k q) q)) (q := q) htu (fun q h9 => hz q (by omega))) wm_X5_51 wo_X7_copyFrom ws_X7__X7_copyFrom wz_X7 wc_X7_copyFrom ⟨by decide, by decide, by decide +kernel⟩ rfl ⟨Nat.le_of_ble_eq_true rfl, Nat.le_of_ble_eq_true rfl⟩ (ci := 6) ⟨_, hT.1 3 _ rfl⟩ rfl ⟨hT, hU⟩ hS hAo ⟨Nat.le_of_ble_eq_true rfl, Nat.le_of_ble_eq_true rfl⟩ hl.1 rfl (Nat.le_of_ble_eq_true rfl) dX5_copyFrom_30) hS (fun q (h8 : ow q = t ∨ ow q = u) => (show ow q = t ∨ ow q = u from by omega)) (fun v H locs hq hz1 hk1 hS => ?_)
  obtain ⟨rfl, hT, hU⟩ := hq
  have hT : Tw X ow t (skW X f (cpW (cpR (cpS k q) q) q)) H := hT
  refine lv_aload_n hx hb dX5_copyFrom_33 rfl (lv_at hl 0 rfl) ?_
  refine lv_aload_n hx hb dX5_copyFrom_34 rfl (lv_at hl 1 rfl) ?_
  refine g_get (ci := 4) (v := .int (q.1 19 0)) h0 hF inX5 hU.1 0 rfl rfl 3 (by decide) wf_X5_37 rfl rfl dX5_copyFrom_35 ?_
  have htg := hT.tag 0 rfl
  refine g_put (ci := 4) h0 hF inX5 tyX5 tyX5_ok nmX5 hT hS (Or.inl htg) 0 rfl rfl 3 (by decide) wf_X5_37 rfl rfl (tyX5_ok 3 (by decide)) rfl rfl (Nat.le_of_ble_eq_true rfl) dX5_copyFrom_38 (fun H locs oq hT' hS => ?_)
  have hU := hU.fr1 oq (by rw [htg]; omega)
  have hT : Tw X ow t (skW X f (sU (cpW (cpR (cpS k q) q) q) 19 0 (q.1 19 0))) H := hT'.to (skN_0 X f (cpW (cpR (cpS k q) q) q) (q.1 19 0))
  refine lv_aload_n hx hb dX5_copyFrom_41 rfl (lv_at hl 0 rfl) ?_
  refine lv_aload_n hx hb dX5_copyFrom_42 rfl (lv_at hl 1 rfl) ?_
  refine g_get (ci := 4) (v := .int (q.1 19 1)) h0 hF inX5 hU.1 0 rfl rfl 4 (by decide) wf_X5_41 rfl rfl dX5_copyFrom_43 ?_
  have htg := hT.tag 0 rfl
  refine g_put (ci := 4) h0 hF inX5 tyX5 tyX5_ok nmX5 hT hS (Or.inl htg) 0 rfl rfl 4 (by decide) wf_X5_41 rfl rfl (tyX5_ok 4 (by decide)) rfl rfl (Nat.le_of_ble_eq_true rfl) dX5_copyFrom_46 (fun H locs oq hT' hS => ?_)
  have hU := hU.fr1 oq (by rw [htg]; omega)
  have hT : Tw X ow t (skW X f (sU (sU (cpW (cpR (cpS k q) q) q) 19 0 (q.1 19 0)) 19 1 (q.1 19 1))) H := hT'.to (skN_1 X f (sU (cpW (cpR (cpS k q) q) q) 19 0 (q.1 19 0)) (q.1 19 1))
  exact mm_vret hF hS dX5_copyFrom_49 (⟨rfl, hT.to (skT X f (by intro r hr; match r, hr with | 0, _ => rfl | 1, _ => rfl | 2, _ => rfl | 3, _ => rfl | 4, _ => rfl | 5, _ => rfl | 6, _ => rfl | 7, _ => rfl | 8, _ => rfl | 9, _ => rfl | 10, _ => rfl | 11, _ => rfl | 12, _ => rfl | 13, _ => rfl | 14, _ => rfl | 15, _ => rfl | 16, _ => rfl | 17, _ => rfl | 18, _ => rfl | n + 19, hr => exact absurd hr (by omega)) rfl rfl (by intro i hi; match i, hi with | 0, _ => rfl | 1, _ => rfl | 2, _ => rfl | n + 3, hi => exact absurd hi (by omega))), hU⟩)
