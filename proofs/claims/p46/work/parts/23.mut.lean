set_option maxHeartbeats 4000000 in
set_option maxRecDepth 100000 in
theorem m_X3_because {X : Cx} {l : Launch} (h0 : Init X) {ow : Nat → Nat} {u a : Nat} {E : Nat → Int32} (r d : Int32) : MM X l yX3_because cX3_because 3 (some .int) 0 0 0 0 [.ref a, .int r, .int d] (Tw X ow u (reW a E)) (fun v H => v = some (.int (-3)) ∧ Tw X ow u (reW a (rfN r d)) H) (fun q => ow q = u) := by
  refine Met.mk (Bh := (Tw X ow u (reW a E))) (by decide) (Nat.le_of_ble_eq_true rfl) ?_
  intro p e s m below meth c ls hF hB hl
  have hR := hB
  have hl : lv_has ls 3 [(0, .ref a), (1, .int r), (2, .int d)] := hl
  obtain ⟨hx, hb, hml, hr, hlk, hown, hG⟩ := id hF
  have hK := hG.K h0
  have hS : va_S (fun q => ow q = u) s.heap s.heap [] := va_S.rf
  refine lv_aload_n hx hb dX3_because_0 rfl (lv_at hl 0 rfl) ?_
  refine lv_iload_n hx hb dX3_because_1 rfl (lv_at hl 1 rfl) ?_
  have htg := hR.tag 0 rfl
  refine g_put (ci := 2) h0 hF inX3 tyX3 tyX3_ok nmX3 hR hS (htg) 0 rfl rfl 0 (by decide) wf_X3_9 rfl rfl (tyX3_ok 0 (by decide)) rfl rfl (Nat.le_of_ble_eq_true rfl) dX3_because_2 (fun H locs oq hR' hS => ?_)
  have hR : Tw X ow u (reW a (upd E 0 r)) H := hR'
  refine lv_aload_n hx hb dX3_because_5 rfl (lv_at hl 0 rfl) ?_
  refine lv_iload_n hx hb dX3_because_6 rfl (lv_at hl 2 rfl) ?_
  have htg := hR.tag 0 rfl
  refine g_put (ci := 2) h0 hF inX3 tyX3 tyX3_ok nmX3 hR hS (htg) 0 rfl rfl 1 (by decide) wf_X3_15 rfl rfl (tyX3_ok 1 (by decide)) rfl rfl (Nat.le_of_ble_eq_true rfl) dX3_because_7 (fun H locs oq hR' hS => ?_)
  have hR : Tw X ow u (reW a (upd (upd E 0 r) 1 d)) H := hR'
  refine lv_aload_n hx hb dX3_because_10 rfl (lv_at hl 0 rfl) ?_
  refine lv_bipush (v := (-4)) hx hb dX3_because_11 (by decide) ?_
  have htg := hR.tag 0 rfl
  refine g_put (ci := 2) h0 hF inX3 tyX3 tyX3_ok nmX3 hR hS (htg) 0 rfl rfl 2 (by decide) wf_X3_18 rfl rfl (tyX3_ok 2 (by decide)) rfl rfl (Nat.le_of_ble_eq_true rfl) dX3_because_13 (fun H locs oq hR' hS => ?_)
  have hR : Tw X ow u (reW a (upd (upd (upd E 0 r) 1 d) 2 (-4))) H := hR'
  refine lv_aload_n hx hb dX3_because_16 rfl (lv_at hl 0 rfl) ?_
  refine lv_bipush (v := (-4)) hx hb dX3_because_17 (by decide) ?_
  have htg := hR.tag 0 rfl
  refine g_put (ci := 2) h0 hF inX3 tyX3 tyX3_ok nmX3 hR hS (htg) 0 rfl rfl 3 (by decide) wf_X3_21 rfl rfl (tyX3_ok 3 (by decide)) rfl rfl (Nat.le_of_ble_eq_true rfl) dX3_because_19 (fun H locs oq hR' hS => ?_)
  have hR : Tw X ow u (reW a (upd (upd (upd (upd E 0 r) 1 d) 2 (-4)) 3 (-4))) H := hR'
  refine lv_bipush (v := (-3)) hx hb dX3_because_22 (by decide) ?_
  exact mm_iret hF hS dX3_because_24 (⟨rfl, hR⟩)

set_option maxHeartbeats 4000000 in
set_option maxRecDepth 100000 in
theorem m_X6_add {X : Cx} {l : Launch} (h0 : Init X) {ow : Nat → Nat} {t : Nat} {f : Nat → Nat} {k : Sk} (hO : Ok k) (hz : ∀ q, ow q = t → X.z ≤ q) (hn : k.2 0 < 8) (b g : Int32) : MM X l yX6_add cX6_add 4 (some .int) 0 0 0 0 [.ref (f 1), .int b, .int g] (Tw X ow t (skW X f k)) (fun v H => v = some (.int (nI (k.2 0))) ∧ Tw X ow t (skW X f (addS k b g)) H) (fun q => ow q = t) := by
  refine Met.mk (Bh := (Tw X ow t (skW X f k))) (by decide) (Nat.le_of_ble_eq_true rfl) ?_
  intro p e s m below meth c ls hF hB hl
  have hT := hB
  have hl : lv_has ls 4 [(0, .ref (f 1)), (1, .int b), (2, .int g)] := hl
  obtain ⟨hx, hb, hml, hr, hlk, hown, hG⟩ := id hF
  have hK := hG.K h0
  have hS : va_S (fun q => ow q = t) s.heap s.heap [] := va_S.rf
  have hO1 := hO.1
  have hO2 := hO.2.1
  have hO3 := hO.2.2.1
  have hAo : ∀ q, q < X.z → ¬ (fun q => ow q = t) q := fun q h9 (h8 : ow q = t) => absurd (hz q h8) (by omega)
  refine lv_aload_n hx hb dX6_add_0 rfl (lv_at hl 0 rfl) ?_
  refine g_get (ci := 5) (v := .int (nI (k.2 0))) h0 hF inX6 hT.1 1 rfl rfl 0 (by decide) wf_X6_27 rfl rfl dX6_add_1 ?_
  refine lv_istore_n (lv' := [(3, .int (nI (k.2 0))), (0, .ref (f 1)), (1, .int b), (2, .int g)]) hx hb dX6_add_4 rfl hl (by decide) rfl (fun ls hl => ?_)
  refine lv_aload_n hx hb dX6_add_5 rfl (lv_at hl 1 rfl) ?_
  refine g_get (ci := 5) (v := .ref (f 4)) h0 hF inX6 hT.1 1 rfl rfl 1 (by decide) wf_X6_9 rfl rfl dX6_add_6 ?_
  refine lv_iload_n hx hb dX6_add_9 rfl (lv_at hl 0 rfl) ?_
  refine lv_iload_n hx hb dX6_add_10 rfl (lv_at hl 2 rfl) ?_
  have htg := hT.tag 4 rfl
  refine g_iast hx hb hK hT hS (htg) 4 0 rfl rfl (k.2 0) (rfl) (by omega) (by decide) dX6_add_11 (fun H locs oq hT' hS => ?_)
  have hT : Tw X ow t (skW X f (sU k 0 (k.2 0) b)) H := hT'.to (skS_0 X f k (k.2 0) b)
  refine lv_aload_n hx hb dX6_add_12 rfl (lv_at hl 1 rfl) ?_
  refine g_get (ci := 5) (v := .ref (f 5)) h0 hF inX6 hT.1 1 rfl rfl 2 (by decide) wf_X6_15 rfl rfl dX6_add_13 ?_
  refine lv_iload_n hx hb dX6_add_16 rfl (lv_at hl 0 rfl) ?_
  refine lv_iload_n hx hb dX6_add_17 rfl (lv_at hl 3 rfl) ?_
  have htg := hT.tag 5 rfl
  refine g_iast hx hb hK hT hS (htg) 5 0 rfl rfl (k.2 0) (rfl) (by omega) (by decide) dX6_add_18 (fun H locs oq hT' hS => ?_)
  have hT : Tw X ow t (skW X f (sU (sU k 0 (k.2 0) b) 1 (k.2 0) g)) H := hT'.to (skS_1 X f (sU k 0 (k.2 0) b) (k.2 0) g)
  refine lv_aload_n hx hb dX6_add_19 rfl (lv_at hl 1 rfl) ?_
  refine g_get (ci := 5) (v := .ref (f 6)) h0 hF inX6 hT.1 1 rfl rfl 3 (by decide) wf_X6_18 rfl rfl dX6_add_20 ?_
  refine lv_iload_n hx hb dX6_add_23 rfl (lv_at hl 0 rfl) ?_
  refine lv_bipush (v := (-4)) hx hb dX6_add_24 (by decide) ?_
  have htg := hT.tag 6 rfl
  refine g_iast hx hb hK hT hS (htg) 6 0 rfl rfl (k.2 0) (rfl) (by omega) (by decide) dX6_add_26 (fun H locs oq hT' hS => ?_)
  have hT : Tw X ow t (skW X f (sU (sU (sU k 0 (k.2 0) b) 1 (k.2 0) g) 2 (k.2 0) (-4))) H := hT'.to (skS_2 X f (sU (sU k 0 (k.2 0) b) 1 (k.2 0) g) (k.2 0) (-4))
  refine lv_aload_n hx hb dX6_add_27 rfl (lv_at hl 1 rfl) ?_
  refine g_get (ci := 5) (v := .ref (f 7)) h0 hF inX6 hT.1 1 rfl rfl 4 (by decide) wf_X6_21 rfl rfl dX6_add_28 ?_
  refine lv_iload_n hx hb dX6_add_31 rfl (lv_at hl 0 rfl) ?_
  refine lv_iconst (v := 0) hx hb dX6_add_32 (by decide) ?_
  have htg := hT.tag 7 rfl
  refine g_iast hx hb hK hT hS (htg) 7 0 rfl rfl (k.2 0) (rfl) (by omega) (by decide) dX6_add_33 (fun H locs oq hT' hS => ?_)
  have hT : Tw X ow t (skW X f (sU (sU (sU (sU k 0 (k.2 0) b) 1 (k.2 0) g) 2 (k.2 0) (-4)) 3 (k.2 0) 0)) H := hT'.to (skS_3 X f (sU (sU (sU k 0 (k.2 0) b) 1 (k.2 0) g) 2 (k.2 0) (-4)) (k.2 0) 0)
  refine lv_aload_n hx hb dX6_add_34 rfl (lv_at hl 1 rfl) ?_
  refine lv_dup hx hb dX6_add_35 rfl ?_
  refine g_get (ci := 5) (v := .int (nI (k.2 0))) h0 hF inX6 hT.1 1 rfl rfl 0 (by decide) wf_X6_27 rfl rfl dX6_add_36 ?_
  refine lv_iconst (v := 1) hx hb dX6_add_39 (by decide) ?_
  refine lv_iadd hx hb dX6_add_40 ?_
  refine lv_topE (y := nI (k.2 0 + 1)) (nI_1 _) ?_
  have htg := hT.tag 1 rfl
  refine g_put (ci := 5) h0 hF inX6 tyX6 tyX6_ok nmX6 hT hS (htg) 1 rfl rfl 0 (by decide) wf_X6_27 rfl rfl (tyX6_ok 0 (by decide)) rfl rfl (Nat.le_of_ble_eq_true rfl) dX6_add_41 (fun H locs oq hT' hS => ?_)
  have hT : Tw X ow t (skW X f (sC (sU (sU (sU (sU k 0 (k.2 0) b) 1 (k.2 0) g) 2 (k.2 0) (-4)) 3 (k.2 0) 0) 0 (k.2 0 + 1))) H := hT'.to (skC_0 X f (sU (sU (sU (sU k 0 (k.2 0) b) 1 (k.2 0) g) 2 (k.2 0) (-4)) 3 (k.2 0) 0) (k.2 0 + 1))
  refine lv_iload_n hx hb dX6_add_44 rfl (lv_at hl 0 rfl) ?_
  exact mm_iret hF hS dX6_add_45 (⟨rfl, hT⟩)

set_option maxHeartbeats 4000000 in
set_option maxRecDepth 100000 in
theorem m_X4_add {X : Cx} {l : Launch} (h0 : Init X) {ow : Nat → Nat} {t : Nat} {f : Nat → Nat} {k : Sk} (hO : Ok k) (hz : ∀ q, ow q = t → X.z ≤ q) (hn : k.2 1 < 5) (c1 : Int32) : MM X l yX4_add cX4_add 3 (some .int) 0 0 0 0 [.ref (f 2), .int c1] (Tw X ow t (skW X f k)) (fun v H => v = some (.int (nI (k.2 1))) ∧ Tw X ow t (skW X f (addR k c1)) H) (fun q => ow q = t) := by
  refine Met.mk (Bh := (Tw X ow t (skW X f k))) (by decide) (Nat.le_of_ble_eq_true rfl) ?_
  intro p e s m below meth c ls hF hB hl
  have hT := hB
  have hl : lv_has ls 3 [(0, .ref (f 2)), (1, .int c1)] := hl
  obtain ⟨hx, hb, hml, hr, hlk, hown, hG⟩ := id hF
  have hK := hG.K h0
  have hS : va_S (fun q => ow q = t) s.heap s.heap [] := va_S.rf
  have hO1 := hO.1
  have hO2 := hO.2.1
  have hO3 := hO.2.2.1
  have hAo : ∀ q, q < X.z → ¬ (fun q => ow q = t) q := fun q h9 (h8 : ow q = t) => absurd (hz q h8) (by omega)
  refine lv_aload_n hx hb dX4_add_0 rfl (lv_at hl 0 rfl) ?_
  refine g_get (ci := 3) (v := .int (nI (k.2 1))) h0 hF inX4 hT.1 2 rfl rfl 0 (by decide) wf_X4_39 rfl rfl dX4_add_1 ?_
  refine lv_istore_n (lv' := [(2, .int (nI (k.2 1))), (0, .ref (f 2)), (1, .int c1)]) hx hb dX4_add_4 rfl hl (by decide) rfl (fun ls hl => ?_)
  refine lv_aload_n hx hb dX4_add_5 rfl (lv_at hl 1 rfl) ?_
  refine g_get (ci := 3) (v := .ref (f 9)) h0 hF inX4 hT.1 2 rfl rfl 1 (by decide) wf_X4_9 rfl rfl dX4_add_6 ?_
  refine lv_iload_n hx hb dX4_add_9 rfl (lv_at hl 0 rfl) ?_
  refine lv_iload_n hx hb dX4_add_10 rfl (lv_at hl 2 rfl) ?_
  have htg := hT.tag 9 rfl
  refine g_iast hx hb hK hT hS (htg) 9 0 rfl rfl (k.2 1) (rfl) (by omega) (by decide) dX4_add_11 (fun H locs oq hT' hS => ?_)
  have hT : Tw X ow t (skW X f (sU k 5 (k.2 1) c1)) H := hT'.to (skS_5 X f k (k.2 1) c1)
  refine lv_aload_n hx hb dX4_add_12 rfl (lv_at hl 1 rfl) ?_
  refine g_get (ci := 3) (v := .ref (f 10)) h0 hF inX4 hT.1 2 rfl rfl 2 (by decide) wf_X4_15 rfl rfl dX4_add_13 ?_
  refine lv_iload_n hx hb dX4_add_16 rfl (lv_at hl 0 rfl) ?_
  refine lv_iconst (v := 0) hx hb dX4_add_17 (by decide) ?_
  have htg := hT.tag 10 rfl
  refine g_iast hx hb hK hT hS (htg) 10 0 rfl rfl (k.2 1) (rfl) (by omega) (by decide) dX4_add_18 (fun H locs oq hT' hS => ?_)
  have hT : Tw X ow t (skW X f (sU (sU k 5 (k.2 1) c1) 6 (k.2 1) 0)) H := hT'.to (skS_6 X f (sU k 5 (k.2 1) c1) (k.2 1) 0)
  refine lv_aload_n hx hb dX4_add_19 rfl (lv_at hl 1 rfl) ?_
  refine g_get (ci := 3) (v := .ref (f 11)) h0 hF inX4 hT.1 2 rfl rfl 3 (by decide) wf_X4_18 rfl rfl dX4_add_20 ?_
  refine lv_iload_n hx hb dX4_add_23 rfl (lv_at hl 0 rfl) ?_
  refine lv_iconst (v := 0) hx hb dX4_add_24 (by decide) ?_
  have htg := hT.tag 11 rfl
  refine g_iast hx hb hK hT hS (htg) 11 0 rfl rfl (k.2 1) (rfl) (by omega) (by decide) dX4_add_25 (fun H locs oq hT' hS => ?_)
  have hT : Tw X ow t (skW X f (sU (sU (sU k 5 (k.2 1) c1) 6 (k.2 1) 0) 7 (k.2 1) 0)) H := hT'.to (skS_7 X f (sU (sU k 5 (k.2 1) c1) 6 (k.2 1) 0) (k.2 1) 0)
  refine lv_aload_n hx hb dX4_add_26 rfl (lv_at hl 1 rfl) ?_
  refine g_get (ci := 3) (v := .ref (f 12)) h0 hF inX4 hT.1 2 rfl rfl 4 (by decide) wf_X4_21 rfl rfl dX4_add_27 ?_
  refine lv_iload_n hx hb dX4_add_30 rfl (lv_at hl 0 rfl) ?_
  refine lv_iconst (v := 0) hx hb dX4_add_31 (by decide) ?_
  have htg := hT.tag 12 rfl
  refine g_iast hx hb hK hT hS (htg) 12 0 rfl rfl (k.2 1) (rfl) (by omega) (by decide) dX4_add_32 (fun H locs oq hT' hS => ?_)
  have hT : Tw X ow t (skW X f (sU (sU (sU (sU k 5 (k.2 1) c1) 6 (k.2 1) 0) 7 (k.2 1) 0) 8 (k.2 1) 0)) H := hT'.to (skS_8 X f (sU (sU (sU k 5 (k.2 1) c1) 6 (k.2 1) 0) 7 (k.2 1) 0) (k.2 1) 0)
  refine lv_aload_n hx hb dX4_add_33 rfl (lv_at hl 1 rfl) ?_
  refine g_get (ci := 3) (v := .ref (f 13)) h0 hF inX4 hT.1 2 rfl rfl 5 (by decide) wf_X4_24 rfl rfl dX4_add_34 ?_
  refine lv_iload_n hx hb dX4_add_37 rfl (lv_at hl 0 rfl) ?_
  refine lv_iconst (v := 0) hx hb dX4_add_38 (by decide) ?_
  have htg := hT.tag 13 rfl
  refine g_iast hx hb hK hT hS (htg) 13 0 rfl rfl (k.2 1) (rfl) (by omega) (by decide) dX4_add_39 (fun H locs oq hT' hS => ?_)
  have hT : Tw X ow t (skW X f (sU (sU (sU (sU (sU k 5 (k.2 1) c1) 6 (k.2 1) 0) 7 (k.2 1) 0) 8 (k.2 1) 0) 9 (k.2 1) 0)) H := hT'.to (skS_9 X f (sU (sU (sU (sU k 5 (k.2 1) c1) 6 (k.2 1) 0) 7 (k.2 1) 0) 8 (k.2 1) 0) (k.2 1) 0)
  refine lv_aload_n hx hb dX4_add_40 rfl (lv_at hl 1 rfl) ?_
  refine g_get (ci := 3) (v := .ref (f 14)) h0 hF inX4 hT.1 2 rfl rfl 6 (by decide) wf_X4_27 rfl rfl dX4_add_41 ?_
  refine lv_iload_n hx hb dX4_add_44 rfl (lv_at hl 0 rfl) ?_
  refine lv_iconst (v := 0) hx hb dX4_add_45 (by decide) ?_
  have htg := hT.tag 14 rfl
  refine g_iast hx hb hK hT hS (htg) 14 0 rfl rfl (k.2 1) (rfl) (by omega) (by decide) dX4_add_46 (fun H locs oq hT' hS => ?_)
  have hT : Tw X ow t (skW X f (sU (sU (sU (sU (sU (sU k 5 (k.2 1) c1) 6 (k.2 1) 0) 7 (k.2 1) 0) 8 (k.2 1) 0) 9 (k.2 1) 0) 10 (k.2 1) 0)) H := hT'.to (skS_10 X f (sU (sU (sU (sU (sU k 5 (k.2 1) c1) 6 (k.2 1) 0) 7 (k.2 1) 0) 8 (k.2 1) 0) 9 (k.2 1) 0) (k.2 1) 0)
  refine lv_aload_n hx hb dX4_add_47 rfl (lv_at hl 1 rfl) ?_
  refine g_get (ci := 3) (v := .ref (f 15)) h0 hF inX4 hT.1 2 rfl rfl 7 (by decide) wf_X4_30 rfl rfl dX4_add_48 ?_
  refine lv_iload_n hx hb dX4_add_51 rfl (lv_at hl 0 rfl) ?_
  refine lv_iconst (v := 0) hx hb dX4_add_52 (by decide) ?_
  have htg := hT.tag 15 rfl
  refine g_iast hx hb hK hT hS (htg) 15 0 rfl rfl (k.2 1) (rfl) (by omega) (by decide) dX4_add_53 (fun H locs oq hT' hS => ?_)
  have hT : Tw X ow t (skW X f (sU (sU (sU (sU (sU (sU (sU k 5 (k.2 1) c1) 6 (k.2 1) 0) 7 (k.2 1) 0) 8 (k.2 1) 0) 9 (k.2 1) 0) 10 (k.2 1) 0) 11 (k.2 1) 0)) H := hT'.to (skS_11 X f (sU (sU (sU (sU (sU (sU k 5 (k.2 1) c1) 6 (k.2 1) 0) 7 (k.2 1) 0) 8 (k.2 1) 0) 9 (k.2 1) 0) 10 (k.2 1) 0) (k.2 1) 0)
  refine lv_aload_n hx hb dX4_add_54 rfl (lv_at hl 1 rfl) ?_
  refine g_get (ci := 3) (v := .ref (f 16)) h0 hF inX4 hT.1 2 rfl rfl 8 (by decide) wf_X4_33 rfl rfl dX4_add_55 ?_
  refine lv_iload_n hx hb dX4_add_58 rfl (lv_at hl 0 rfl) ?_
  refine lv_iconst (v := 0) hx hb dX4_add_59 (by decide) ?_
  have htg := hT.tag 16 rfl
  refine g_iast hx hb hK hT hS (htg) 16 0 rfl rfl (k.2 1) (rfl) (by omega) (by decide) dX4_add_60 (fun H locs oq hT' hS => ?_)
  have hT : Tw X ow t (skW X f (sU (sU (sU (sU (sU (sU (sU (sU k 5 (k.2 1) c1) 6 (k.2 1) 0) 7 (k.2 1) 0) 8 (k.2 1) 0) 9 (k.2 1) 0) 10 (k.2 1) 0) 11 (k.2 1) 0) 12 (k.2 1) 0)) H := hT'.to (skS_12 X f (sU (sU (sU (sU (sU (sU (sU k 5 (k.2 1) c1) 6 (k.2 1) 0) 7 (k.2 1) 0) 8 (k.2 1) 0) 9 (k.2 1) 0) 10 (k.2 1) 0) 11 (k.2 1) 0) (k.2 1) 0)
  refine lv_aload_n hx hb dX4_add_61 rfl (lv_at hl 1 rfl) ?_
  refine g_get (ci := 3) (v := .ref (f 17)) h0 hF inX4 hT.1 2 rfl rfl 9 (by decide) wf_X4_36 rfl rfl dX4_add_62 ?_
  refine lv_iload_n hx hb dX4_add_65 rfl (lv_at hl 0 rfl) ?_
  refine lv_iconst (v := 0) hx hb dX4_add_66 (by decide) ?_
  have htg := hT.tag 17 rfl
  refine g_iast hx hb hK hT hS (htg) 17 0 rfl rfl (k.2 1) (rfl) (by omega) (by decide) dX4_add_67 (fun H locs oq hT' hS => ?_)
  have hT : Tw X ow t (skW X f (sU (sU (sU (sU (sU (sU (sU (sU (sU k 5 (k.2 1) c1) 6 (k.2 1) 0) 7 (k.2 1) 0) 8 (k.2 1) 0) 9 (k.2 1) 0) 10 (k.2 1) 0) 11 (k.2 1) 0) 12 (k.2 1) 0) 13 (k.2 1) 0)) H := hT'.to (skS_13 X f (sU (sU (sU (sU (sU (sU (sU (sU k 5 (k.2 1) c1) 6 (k.2 1) 0) 7 (k.2 1) 0) 8 (k.2 1) 0) 9 (k.2 1) 0) 10 (k.2 1) 0) 11 (k.2 1) 0) 12 (k.2 1) 0) (k.2 1) 0)
  refine lv_aload_n hx hb dX4_add_68 rfl (lv_at hl 1 rfl) ?_
  refine lv_dup hx hb dX4_add_69 rfl ?_
  refine g_get (ci := 3) (v := .int (nI (k.2 1))) h0 hF inX4 hT.1 2 rfl rfl 0 (by decide) wf_X4_39 rfl rfl dX4_add_70 ?_
  refine lv_iconst (v := 1) hx hb dX4_add_73 (by decide) ?_
  refine lv_iadd hx hb dX4_add_74 ?_
  refine lv_topE (y := nI (k.2 1 + 1)) (nI_1 _) ?_
  have htg := hT.tag 2 rfl
  refine g_put (ci := 3) h0 hF inX4 tyX4 tyX4_ok nmX4 hT hS (htg) 2 rfl rfl 0 (by decide) wf_X4_39 rfl rfl (tyX4_ok 0 (by decide)) rfl rfl (Nat.le_of_ble_eq_true rfl) dX4_add_75 (fun H locs oq hT' hS => ?_)
  have hT : Tw X ow t (skW X f (sC (sU (sU (sU (sU (sU (sU (sU (sU (sU k 5 (k.2 1) c1) 6 (k.2 1) 0) 7 (k.2 1) 0) 8 (k.2 1) 0) 9 (k.2 1) 0) 10 (k.2 1) 0) 11 (k.2 1) 0) 12 (k.2 1) 0) 13 (k.2 1) 0) 1 (k.2 1 + 1))) H := hT'.to (skC_1 X f (sU (sU (sU (sU (sU (sU (sU (sU (sU k 5 (k.2 1) c1) 6 (k.2 1) 0) 7 (k.2 1) 0) 8 (k.2 1) 0) 9 (k.2 1) 0) 10 (k.2 1) 0) 11 (k.2 1) 0) 12 (k.2 1) 0) 13 (k.2 1) 0) (k.2 1 + 1))
  refine lv_iload_n hx hb dX4_add_78 rfl (lv_at hl 0 rfl) ?_
  exact mm_iret hF hS dX4_add_79 (⟨rfl, hT⟩)

set_option maxHeartbeats 4000000 in
set_option maxRecDepth 100000 in
theorem m_X7_add {X : Cx} {l : Launch} (h0 : Init X) {ow : Nat → Nat} {t : Nat} {f : Nat → Nat} {k : Sk} (hO : Ok k) (hz : ∀ q, ow q = t → X.z ≤ q) (hn : k.2 2 < 8) (r g d : Int32) : MM X l yX7_add cX7_add 5 (some .int) 0 0 0 0 [.ref (f 3), .int r, .int g, .int d] (Tw X ow t (skW X f k)) (fun v H => v = some (.int (nI (k.2 2))) ∧ Tw X ow t (skW X f (addW k r g d)) H) (fun q => ow q = t) := by
  refine Met.mk (Bh := (Tw X ow t (skW X f k))) (by decide) (Nat.le_of_ble_eq_true rfl) ?_
  intro p e s m below meth c ls hF hB hl
  have hT := hB
  have hl : lv_has ls 5 [(0, .ref (f 3)), (1, .int r), (2, .int g), (3, .int d)] := hl
  obtain ⟨hx, hb, hml, hr, hlk, hown, hG⟩ := id hF
  have hK := hG.K h0
  have hS : va_S (fun q => ow q = t) s.heap s.heap [] := va_S.rf
  have hO1 := hO.1
  have hO2 := hO.2.1
  have hO3 := hO.2.2.1
  have hAo : ∀ q, q < X.z → ¬ (fun q => ow q = t) q := fun q h9 (h8 : ow q = t) => absurd (hz q h8) (by omega)
  refine lv_aload_n hx hb dX7_add_0 rfl (lv_at hl 0 rfl) ?_
  refine g_get (ci := 6) (v := .int (nI (k.2 2))) h0 hF inX7 hT.1 3 rfl rfl 0 (by decide) wf_X7_27 rfl rfl dX7_add_1 ?_
  refine lv_istore (lv' := [(4, .int (nI (k.2 2))), (0, .ref (f 3)), (1, .int r), (2, .int g), (3, .int d)]) hx hb dX7_add_4 hl (by decide) rfl (fun ls hl => ?_)
  refine lv_aload_n hx hb dX7_add_6 rfl (lv_at hl 1 rfl) ?_
  refine g_get (ci := 6) (v := .ref (f 18)) h0 hF inX7 hT.1 3 rfl rfl 1 (by decide) wf_X7_9 rfl rfl dX7_add_7 ?_
  refine lv_iload hx hb dX7_add_10 (lv_at hl 0 rfl) ?_
  refine lv_iload_n hx hb dX7_add_12 rfl (lv_at hl 2 rfl) ?_
  have htg := hT.tag 18 rfl
  refine g_iast hx hb hK hT hS (htg) 18 0 rfl rfl (k.2 2) (rfl) (by omega) (by decide) dX7_add_13 (fun H locs oq hT' hS => ?_)
  have hT : Tw X ow t (skW X f (sU k 14 (k.2 2) r)) H := hT'.to (skS_14 X f k (k.2 2) r)
  refine lv_aload_n hx hb dX7_add_14 rfl (lv_at hl 1 rfl) ?_
  refine g_get (ci := 6) (v := .ref (f 19)) h0 hF inX7 hT.1 3 rfl rfl 2 (by decide) wf_X7_15 rfl rfl dX7_add_15 ?_
  refine lv_iload hx hb dX7_add_18 (lv_at hl 0 rfl) ?_
  refine lv_iload_n hx hb dX7_add_20 rfl (lv_at hl 3 rfl) ?_
  have htg := hT.tag 19 rfl
  refine g_iast hx hb hK hT hS (htg) 19 0 rfl rfl (k.2 2) (rfl) (by omega) (by decide) dX7_add_21 (fun H locs oq hT' hS => ?_)
  have hT : Tw X ow t (skW X f (sU (sU k 14 (k.2 2) r) 15 (k.2 2) g)) H := hT'.to (skS_15 X f (sU k 14 (k.2 2) r) (k.2 2) g)
  refine lv_aload_n hx hb dX7_add_22 rfl (lv_at hl 1 rfl) ?_
  refine g_get (ci := 6) (v := .ref (f 20)) h0 hF inX7 hT.1 3 rfl rfl 3 (by decide) wf_X7_18 rfl rfl dX7_add_23 ?_
  refine lv_iload hx hb dX7_add_26 (lv_at hl 0 rfl) ?_
  refine lv_iload_n hx hb dX7_add_28 rfl (lv_at hl 4 rfl) ?_
  have htg := hT.tag 20 rfl
  refine g_iast hx hb hK hT hS (htg) 20 0 rfl rfl (k.2 2) (rfl) (by omega) (by decide) dX7_add_29 (fun H locs oq hT' hS => ?_)
  have hT : Tw X ow t (skW X f (sU (sU (sU k 14 (k.2 2) r) 15 (k.2 2) g) 16 (k.2 2) d)) H := hT'.to (skS_16 X f (sU (sU k 14 (k.2 2) r) 15 (k.2 2) g) (k.2 2) d)
  refine lv_aload_n hx hb dX7_add_30 rfl (lv_at hl 1 rfl) ?_
  refine g_get (ci := 6) (v := .ref (f 21)) h0 hF inX7 hT.1 3 rfl rfl 4 (by decide) wf_X7_21 rfl rfl dX7_add_31 ?_
  refine lv_iload hx hb dX7_add_34 (lv_at hl 0 rfl) ?_
  refine lv_iconst (v := 0) hx hb dX7_add_36 (by decide) ?_
  have htg := hT.tag 21 rfl
  refine g_iast hx hb hK hT hS (htg) 21 0 rfl rfl (k.2 2) (rfl) (by omega) (by decide) dX7_add_37 (fun H locs oq hT' hS => ?_)
  have hT : Tw X ow t (skW X f (sU (sU (sU (sU k 14 (k.2 2) r) 15 (k.2 2) g) 16 (k.2 2) d) 17 (k.2 2) 0)) H := hT'.to (skS_17 X f (sU (sU (sU k 14 (k.2 2) r) 15 (k.2 2) g) 16 (k.2 2) d) (k.2 2) 0)
  refine lv_aload_n hx hb dX7_add_38 rfl (lv_at hl 1 rfl) ?_
  refine g_get (ci := 6) (v := .ref (f 22)) h0 hF inX7 hT.1 3 rfl rfl 5 (by decide) wf_X7_24 rfl rfl dX7_add_39 ?_
  refine lv_iload hx hb dX7_add_42 (lv_at hl 0 rfl) ?_
  refine lv_bipush (v := (-4)) hx hb dX7_add_44 (by decide) ?_
  have htg := hT.tag 22 rfl
  refine g_iast hx hb hK hT hS (htg) 22 0 rfl rfl (k.2 2) (rfl) (by omega) (by decide) dX7_add_46 (fun H locs oq hT' hS => ?_)
  have hT : Tw X ow t (skW X f (sU (sU (sU (sU (sU k 14 (k.2 2) r) 15 (k.2 2) g) 16 (k.2 2) d) 17 (k.2 2) 0) 18 (k.2 2) (-4))) H := hT'.to (skS_18 X f (sU (sU (sU (sU k 14 (k.2 2) r) 15 (k.2 2) g) 16 (k.2 2) d) 17 (k.2 2) 0) (k.2 2) (-4))
  refine lv_aload_n hx hb dX7_add_47 rfl (lv_at hl 1 rfl) ?_
  refine lv_dup hx hb dX7_add_48 rfl ?_
  refine g_get (ci := 6) (v := .int (nI (k.2 2))) h0 hF inX7 hT.1 3 rfl rfl 0 (by decide) wf_X7_27 rfl rfl dX7_add_49 ?_
  refine lv_iconst (v := 1) hx hb dX7_add_52 (by decide) ?_
  refine lv_iadd hx hb dX7_add_53 ?_
  refine lv_topE (y := nI (k.2 2 + 1)) (nI_1 _) ?_
  have htg := hT.tag 3 rfl
  refine g_put (ci := 6) h0 hF inX7 tyX7 tyX7_ok nmX7 hT hS (htg) 3 rfl rfl 0 (by decide) wf_X7_27 rfl rfl (tyX7_ok 0 (by decide)) rfl rfl (Nat.le_of_ble_eq_true rfl) dX7_add_54 (fun H locs oq hT' hS => ?_)
  have hT : Tw X ow t (skW X f (sC (sU (sU (sU (sU (sU k 14 (k.2 2) r) 15 (k.2 2) g) 16 (k.2 2) d) 17 (k.2 2) 0) 18 (k.2 2) (-4)) 2 (k.2 2 + 1))) H := hT'.to (skC_2 X f (sU (sU (sU (sU (sU k 14 (k.2 2) r) 15 (k.2 2) g) 16 (k.2 2) d) 17 (k.2 2) 0) 18 (k.2 2) (-4)) (k.2 2 + 1))
  refine lv_iload hx hb dX7_add_57 (lv_at hl 0 rfl) ?_
  exact mm_iret hF hS dX7_add_59 (⟨rfl, hT⟩)

set_option maxHeartbeats 4000000 in
set_option maxRecDepth 100000 in
theorem m_X7_move {X : Cx} {l : Launch} (h0 : Init X) {ow : Nat → Nat} {t : Nat} {f : Nat → Nat} {k : Sk} (hO : Ok k) (hz : ∀ q, ow q = t → X.z ≤ q) (x : Int32) (i : Nat) (hxi : x = nI i) (hi : i < 8) (y : Int32) (j : Nat) (hyj : y = nI j) (hj : j < 8) : MM X l yX7_move cX7_move 3 none 0 0 0 0 [.ref (f 3), .int x, .int y] (Tw X ow t (skW X f k)) (fun v H => v = none ∧ Tw X ow t (skW X f (mvW k i j)) H) (fun q => ow q = t) := by
  subst hxi
  subst hyj
  refine Met.mk (Bh := (Tw X ow t (skW X f k))) (by decide) (Nat.le_of_ble_eq_true rfl) ?_
  intro p e s m below meth c ls hF hB hl
  have hT := hB
  have hl : lv_has ls 3 [(0, .ref (f 3)), (1, .int (nI i)), (2, .int (nI j))] := hl
  obtain ⟨hx, hb, hml, hr, hlk, hown, hG⟩ := id hF
  have hK := hG.K h0
  have hS : va_S (fun q => ow q = t) s.heap s.heap [] := va_S.rf
  have hO1 := hO.1
  have hO2 := hO.2.1
  have hO3 := hO.2.2.1
  have hAo : ∀ q, q < X.z → ¬ (fun q => ow q = t) q := fun q h9 (h8 : ow q = t) => absurd (hz q h8) (by omega)
  refine lv_aload_n hx hb dX7_move_0 rfl (lv_at hl 0 rfl) ?_
  refine g_get (ci := 6) (v := .ref (f 18)) h0 hF inX7 hT.1 3 rfl rfl 1 (by decide) wf_X7_9 rfl rfl dX7_move_1 ?_
  refine lv_iload_n hx hb dX7_move_4 rfl (lv_at hl 2 rfl) ?_
  refine lv_aload_n hx hb dX7_move_5 rfl (lv_at hl 0 rfl) ?_
  refine g_get (ci := 6) (v := .ref (f 18)) h0 hF inX7 hT.1 3 rfl rfl 1 (by decide) wf_X7_9 rfl rfl dX7_move_6 ?_
  refine lv_iload_n hx hb dX7_move_9 rfl (lv_at hl 1 rfl) ?_
  refine g_iald hx hb hK hT.1 18 0 rfl rfl i (rfl) (by omega) (by decide) dX7_move_10 ?_
  have htg := hT.tag 18 rfl
  refine g_iast hx hb hK hT hS (htg) 18 0 rfl rfl j (rfl) (by omega) (by decide) dX7_move_11 (fun H locs oq hT' hS => ?_)
  have hT : Tw X ow t (skW X f (sU k 14 j (k.1 14 i))) H := hT'.to (skS_14 X f k j (k.1 14 i))
  refine lv_aload_n hx hb dX7_move_12 rfl (lv_at hl 0 rfl) ?_
  refine g_get (ci := 6) (v := .ref (f 19)) h0 hF inX7 hT.1 3 rfl rfl 2 (by decide) wf_X7_15 rfl rfl dX7_move_13 ?_
  refine lv_iload_n hx hb dX7_move_16 rfl (lv_at hl 2 rfl) ?_
  refine lv_aload_n hx hb dX7_move_17 rfl (lv_at hl 0 rfl) ?_
  refine g_get (ci := 6) (v := .ref (f 19)) h0 hF inX7 hT.1 3 rfl rfl 2 (by decide) wf_X7_15 rfl rfl dX7_move_18 ?_
  refine lv_iload_n hx hb dX7_move_21 rfl (lv_at hl 1 rfl) ?_
  refine g_iald hx hb hK hT.1 19 0 rfl rfl i (rfl) (by omega) (by decide) dX7_move_22 ?_
  have htg := hT.tag 19 rfl
  refine g_iast hx hb hK hT hS (htg) 19 0 rfl rfl j (rfl) (by omega) (by decide) dX7_move_23 (fun H locs oq hT' hS => ?_)
  have hT : Tw X ow t (skW X f (sU (sU k 14 j (k.1 14 i)) 15 j (k.1 15 i))) H := hT'.to (skS_15 X f (sU k 14 j (k.1 14 i)) j (k.1 15 i))
  refine lv_aload_n hx hb dX7_move_24 rfl (lv_at hl 0 rfl) ?_
  refine g_get (ci := 6) (v := .ref (f 20)) h0 hF inX7 hT.1 3 rfl rfl 3 (by decide) wf_X7_18 rfl rfl dX7_move_25 ?_
  refine lv_iload_n hx hb dX7_move_28 rfl (lv_at hl 2 rfl) ?_
  refine lv_aload_n hx hb dX7_move_29 rfl (lv_at hl 0 rfl) ?_
  refine g_get (ci := 6) (v := .ref (f 20)) h0 hF inX7 hT.1 3 rfl rfl 3 (by decide) wf_X7_18 rfl rfl dX7_move_30 ?_
  refine lv_iload_n hx hb dX7_move_33 rfl (lv_at hl 1 rfl) ?_
  refine g_iald hx hb hK hT.1 20 0 rfl rfl i (rfl) (by omega) (by decide) dX7_move_34 ?_
  have htg := hT.tag 20 rfl
  refine g_iast hx hb hK hT hS (htg) 20 0 rfl rfl j (rfl) (by omega) (by decide) dX7_move_35 (fun H locs oq hT' hS => ?_)
  have hT : Tw X ow t (skW X f (sU (sU (sU k 14 j (k.1 14 i)) 15 j (k.1 15 i)) 16 j (k.1 16 i))) H := hT'.to (skS_16 X f (sU (sU k 14 j (k.1 14 i)) 15 j (k.1 15 i)) j (k.1 16 i))
  refine lv_aload_n hx hb dX7_move_36 rfl (lv_at hl 0 rfl) ?_
  refine g_get (ci := 6) (v := .ref (f 21)) h0 hF inX7 hT.1 3 rfl rfl 4 (by decide) wf_X7_21 rfl rfl dX7_move_37 ?_
  refine lv_iload_n hx hb dX7_move_40 rfl (lv_at hl 2 rfl) ?_
  refine lv_aload_n hx hb dX7_move_41 rfl (lv_at hl 0 rfl) ?_
  refine g_get (ci := 6) (v := .ref (f 21)) h0 hF inX7 hT.1 3 rfl rfl 4 (by decide) wf_X7_21 rfl rfl dX7_move_42 ?_
  refine lv_iload_n hx hb dX7_move_45 rfl (lv_at hl 1 rfl) ?_
  refine g_iald hx hb hK hT.1 21 0 rfl rfl i (rfl) (by omega) (by decide) dX7_move_46 ?_
  have htg := hT.tag 21 rfl
  refine g_iast hx hb hK hT hS (htg) 21 0 rfl rfl j (rfl) (by omega) (by decide) dX7_move_47 (fun H locs oq hT' hS => ?_)
  have hT : Tw X ow t (skW X f (sU (sU (sU (sU k 14 j (k.1 14 i)) 15 j (k.1 15 i)) 16 j (k.1 16 i)) 17 j (k.1 17 i))) H := hT'.to (skS_17 X f (sU (sU (sU k 14 j (k.1 14 i)) 15 j (k.1 15 i)) 16 j (k.1 16 i)) j (k.1 17 i))
  refine lv_aload_n hx hb dX7_move_48 rfl (lv_at hl 0 rfl) ?_
  refine g_get (ci := 6) (v := .ref (f 22)) h0 hF inX7 hT.1 3 rfl rfl 5 (by decide) wf_X7_24 rfl rfl dX7_move_49 ?_
  refine lv_iload_n hx hb dX7_move_52 rfl (lv_at hl 2 rfl) ?_
  refine lv_aload_n hx hb dX7_move_53 rfl (lv_at hl 0 rfl) ?_
  refine g_get (ci := 6) (v := .ref (f 22)) h0 hF inX7 hT.1 3 rfl rfl 5 (by decide) wf_X7_24 rfl rfl dX7_move_54 ?_
  refine lv_iload_n hx hb dX7_move_57 rfl (lv_at hl 1 rfl) ?_
  refine g_iald hx hb hK hT.1 22 0 rfl rfl i (rfl) (by omega) (by decide) dX7_move_58 ?_
  have htg := hT.tag 22 rfl
  refine g_iast hx hb hK hT hS (htg) 22 0 rfl rfl j (rfl) (by omega) (by decide) dX7_move_59 (fun H locs oq hT' hS => ?_)
  have hT : Tw X ow t (skW X f (sU (sU (sU (sU (sU k 14 j (k.1 14 i)) 15 j (k.1 15 i)) 16 j (k.1 16 i)) 17 j (k.1 17 i)) 18 j (k.1 18 i))) H := hT'.to (skS_18 X f (sU (sU (sU (sU k 14 j (k.1 14 i)) 15 j (k.1 15 i)) 16 j (k.1 16 i)) 17 j (k.1 17 i)) j (k.1 18 i))
  exact mm_vret hF hS dX7_move_60 (⟨rfl, hT⟩)

set_option maxHeartbeats 4000000 in
set_option maxRecDepth 100000 in
theorem m_X7_impoundAllOf {X : Cx} {l : Launch} (h0 : Init X) {ow : Nat → Nat} {t : Nat} {f : Nat → Nat} {k : Sk} (hO : Ok k) (hz : ∀ q, ow q = t → X.z ≤ q) (g : Int32) : MM X l yX7_impoundAllOf cX7_impoundAllOf 4 (some .int) 1 21 0 0 [.ref (f 3), .int g] (Tw X ow t (skW X f k)) (fun v H => v = some (.int (nI (tA k g (k.2 2)))) ∧ Tw X ow t (skW X f (iA k g (k.2 2))) H) (fun q => ow q = t) := by
  refine Met.mk (Bh := (Tw X ow t (skW X f k))) (by decide) (Nat.le_of_ble_eq_true rfl) ?_
  intro p e s m below meth c ls hF hB hl
  have hT := hB
  have hl : lv_has ls 4 [(0, .ref (f 3)), (1, .int g)] := hl
  obtain ⟨hx, hb, hml, hr, hlk, hown, hG⟩ := id hF
  have hK := hG.K h0
  have hS : va_S (fun q => ow q = t) s.heap s.heap [] := va_S.rf
  have hO1 := hO.1
  have hO2 := hO.2.1
  have hO3 := hO.2.2.1
  have hAo : ∀ q, q < X.z → ¬ (fun q => ow q = t) q := fun q h9 (h8 : ow q = t) => absurd (hz q h8) (by omega)
  refine lv_iconst (v := 0) hx hb dX7_impoundAllOf_0 (by decide) ?_
  refine lv_istore_n (lv' := [(2, .int 0), (0, .ref (f 3)), (1, .int g)]) hx hb dX7_impoundAllOf_1 rfl hl (by decide) rfl (fun ls hl => ?_)
  refine lv_iconst (v := 0) hx hb dX7_impoundAllOf_2 (by decide) ?_
  refine lv_istore_n (lv' := [(3, .int 0), (2, .int 0), (0, .ref (f 3)), (1, .int g)]) hx hb dX7_impoundAllOf_3 rfl hl (by decide) rfl (fun ls hl => ?_)
  have key_4 : ∀ (nf j : Nat), j + nf = k.2 2 → ∀ (H : Heap) (locs : List Loc), Tw X ow t (skW X f (iA k g j)) H → va_S (fun q => ow q = t) s.heap H locs → ∀ (ls : Array Slot), lv_has ls 4 [(0, .ref (f 3)), (1, .int g), (2, .int (nI (tA k g j))), (3, .int (nI j))] → W p l e ({ frames := 1, cells := 0, slots := 0, locals := 21 } : Room) s m ([.ref (f 3), .int g] : List Value).toArray below meth c H locs 0 0 (MQ below (qM (fun v H => v = some (.int (nI (tA k g (k.2 2)))) ∧ Tw X ow t (skW X f (iA k g (k.2 2))) H) (fun q => ow q = t)) ([.ref (f 3), .int g] : List Value).toArray s 0 0 (fun q => ow q = t)) (F0 m 4 ls []) := by
    intro nf
    induction nf with
    | zero =>
      intro j hj H locs hT hS ls hl
      have hj_e : j = k.2 2 := by omega
      have e2 := iA_2 k g j
      refine lv_iload_n hx hb dX7_impoundAllOf_4 rfl (lv_at hl 3 rfl) ?_
      refine lv_aload_n hx hb dX7_impoundAllOf_5 rfl (lv_at hl 0 rfl) ?_
      refine g_get (ci := 6) (v := .int (nI ((iA k g j).2 2))) h0 hF inX7 hT.1 3 rfl rfl 0 (by decide) wf_X7_27 rfl rfl dX7_impoundAllOf_6 ?_
      refine lv_topE (y := nI (k.2 2)) (by rw [e2]) ?_
      refine lv_icmp_ge (tgt := 46) hx hb dX7_impoundAllOf_9 (by decide) (fun c_9 => ?_) (fun c_9 => absurd (nI_le (a := k.2 2) (b := j) (by omega) (by omega)) c_9)
      have n_9 := Int32.not_lt.mpr c_9
      refine lv_iload_n hx hb dX7_impoundAllOf_46 rfl (lv_at hl 2 rfl) ?_
      exact mm_iret hF hS dX7_impoundAllOf_47 (by rw [hj_e] at hT; exact ⟨by rw [hj_e], hT⟩)
    | succ nf ih_4 =>
      intro j hj H locs hT hS ls hl
      have hj_l : j < k.2 2 := by omega
      have e2 := iA_2 k g j
      refine lv_iload_n hx hb dX7_impoundAllOf_4 rfl (lv_at hl 3 rfl) ?_
      refine lv_aload_n hx hb dX7_impoundAllOf_5 rfl (lv_at hl 0 rfl) ?_
      refine g_get (ci := 6) (v := .int (nI ((iA k g j).2 2))) h0 hF inX7 hT.1 3 rfl rfl 0 (by decide) wf_X7_27 rfl rfl dX7_impoundAllOf_6 ?_
      refine lv_topE (y := nI (k.2 2)) (by rw [e2]) ?_
      refine lv_icmp_ge (tgt := 46) hx hb dX7_impoundAllOf_9 (by decide) (fun c_9 => absurd c_9 (nI_ge (a := j) (b := k.2 2) (by omega) (by omega))) (fun c_9 => ?_)
      have n_9 := Int32.not_le.mp c_9
      refine lv_aload_n hx hb dX7_impoundAllOf_12 rfl (lv_at hl 0 rfl) ?_
      refine g_get (ci := 6) (v := .ref (f 18)) h0 hF inX7 hT.1 3 rfl rfl 1 (by decide) wf_X7_9 rfl rfl dX7_impoundAllOf_13 ?_
      refine lv_iload_n hx hb dX7_impoundAllOf_16 rfl (lv_at hl 3 rfl) ?_
      refine g_iald hx hb hK hT.1 18 0 rfl rfl j (rfl) (by omega) (by decide) dX7_impoundAllOf_17 ?_
      refine lv_iload_n hx hb dX7_impoundAllOf_18 rfl (lv_at hl 1 rfl) ?_
      refine lv_icmp_ne (tgt := 40) hx hb dX7_impoundAllOf_19 (by decide) (fun c_19 => ?_) (fun c_19 => ?_)
      · refine lv_iinc (v := nI (j + 1)) (lv' := [(3, .int (nI (j + 1))), (0, .ref (f 3)), (1, .int g), (2, .int (nI (tA k g j)))]) hx hb dX7_impoundAllOf_40 hl (k := 3) rfl (nI_1 j) (by decide) rfl (fun ls hl => ?_)
        refine lv_goto (tgt := 4) hx hb dX7_impoundAllOf_43 (by decide) ?_
        rw [show (iA k g j) = (iA k g (j + 1)) from (by rw [iA]; simp only [c_9, n_9, c_19, if_true, if_false, Bool.false_eq_true, decide_true, decide_false, Bool.true_and, Bool.false_and, Bool.not_true, Bool.not_false, reduceIte])] at hT
        refine ih_4 (j + 1) (by omega) _ _ hT hS ls (lv_eqv (lv_sub (l' := [(0, .ref (f 3)), (1, .int g), (2, .int (nI (tA k g j))), (3, .int (nI (j + 1)))]) hl [1, 2, 3, 0] rfl) ?_)
        rw [show (nI (tA k g j)) = (nI (tA k g (j + 1))) from (by rw [tA]; simp only [c_9, n_9, c_19, if_true, if_false, Bool.false_eq_true, decide_true, decide_false, Bool.true_and, Bool.false_and, Bool.not_true, Bool.not_false, reduceIte])]
      · refine lv_aload_n hx hb dX7_impoundAllOf_22 rfl (lv_at hl 0 rfl) ?_
        refine lv_iload_n hx hb dX7_impoundAllOf_23 rfl (lv_at hl 3 rfl) ?_
        refine core_p (v := .int (bI (isImp (iA k g j) j))) (grV (n := 1) (As := [.int (nI j)]) (rest := []) h0 hF (m_X7_isImpounded h0 (f := f) (k := (iA k g j)) (Ok_iA hO g j)  (nI j) j rfl (by rw [e2]; omega)) wm_X7_39 wo_X7_isImpounded ws_X7__X7_isImpounded wz_X7 wc_X7_isImpounded ⟨by decide, by decide, by decide +kernel⟩ rfl ⟨Nat.le_of_ble_eq_true rfl, Nat.le_of_ble_eq_true rfl⟩ (ci := 6) ⟨_, hT.1 3 _ rfl⟩ rfl hT.1 hS hAo ⟨Nat.le_of_ble_eq_true rfl, Nat.le_of_ble_eq_true rfl⟩ hl.1 rfl (Nat.le_of_ble_eq_true rfl) dX7_impoundAllOf_24) ?_
        refine lv_if_ne (tgt := 40) hx hb dX7_impoundAllOf_27 (by decide) (fun c_27 => ?_) (fun c_27 => ?_)
        · have n_27 := bI_n0.mp c_27
          refine lv_iinc (v := nI (j + 1)) (lv' := [(3, .int (nI (j + 1))), (0, .ref (f 3)), (1, .int g), (2, .int (nI (tA k g j)))]) hx hb dX7_impoundAllOf_40 hl (k := 3) rfl (nI_1 j) (by decide) rfl (fun ls hl => ?_)
          refine lv_goto (tgt := 4) hx hb dX7_impoundAllOf_43 (by decide) ?_
          rw [show (iA k g j) = (iA k g (j + 1)) from (by rw [iA]; simp only [c_9, n_9, c_19, n_27, if_true, if_false, Bool.false_eq_true, decide_true, decide_false, Bool.true_and, Bool.false_and, Bool.not_true, Bool.not_false, reduceIte])] at hT
          refine ih_4 (j + 1) (by omega) _ _ hT hS ls (lv_eqv (lv_sub (l' := [(0, .ref (f 3)), (1, .int g), (2, .int (nI (tA k g j))), (3, .int (nI (j + 1)))]) hl [1, 2, 3, 0] rfl) ?_)
          rw [show (nI (tA k g j)) = (nI (tA k g (j + 1))) from (by rw [tA]; simp only [c_9, n_9, c_19, n_27, if_true, if_false, Bool.false_eq_true, decide_true, decide_false, Bool.true_and, Bool.false_and, Bool.not_true, Bool.not_false, reduceIte])]
        · have n_27 := bI_0.mp c_27
          refine lv_aload_n hx hb dX7_impoundAllOf_30 rfl (lv_at hl 0 rfl) ?_
          refine g_get (ci := 6) (v := .ref (f 22)) h0 hF inX7 hT.1 3 rfl rfl 5 (by decide) wf_X7_24 rfl rfl dX7_impoundAllOf_31 ?_
          refine lv_iload_n hx hb dX7_impoundAllOf_34 rfl (lv_at hl 3 rfl) ?_
          refine lv_iconst (v := 0) hx hb dX7_impoundAllOf_35 (by decide) ?_
          have htg := hT.tag 22 rfl
          refine g_iast hx hb hK hT hS (htg) 22 0 rfl rfl j (rfl) (by omega) (by decide) dX7_impoundAllOf_36 (fun H locs oq hT' hS => ?_)
          have hT : Tw X ow t (skW X f (sU (iA k g j) 18 j 0)) H := hT'.to (skS_18 X f (iA k g j) j 0)
          refine lv_iinc (v := nI ((tA k g j) + 1)) (lv' := [(2, .int (nI ((tA k g j) + 1))), (0, .ref (f 3)), (1, .int g), (3, .int (nI j))]) hx hb dX7_impoundAllOf_37 hl (k := 2) rfl (nI_1 (tA k g j)) (by decide) rfl (fun ls hl => ?_)
          refine lv_iinc (v := nI (j + 1)) (lv' := [(3, .int (nI (j + 1))), (2, .int (nI ((tA k g j) + 1))), (0, .ref (f 3)), (1, .int g)]) hx hb dX7_impoundAllOf_40 hl (k := 3) rfl (nI_1 j) (by decide) rfl (fun ls hl => ?_)
          refine lv_goto (tgt := 4) hx hb dX7_impoundAllOf_43 (by decide) ?_
          rw [show (sU (iA k g j) 18 j 0) = (iA k g (j + 1)) from (by rw [iA]; simp only [c_9, n_9, c_19, n_27, if_true, if_false, Bool.false_eq_true, decide_true, decide_false, Bool.true_and, Bool.false_and, Bool.not_true, Bool.not_false, reduceIte])] at hT
          refine ih_4 (j + 1) (by omega) _ _ hT hS ls (lv_eqv (lv_sub (l' := [(0, .ref (f 3)), (1, .int g), (2, .int (nI ((tA k g j) + 1))), (3, .int (nI (j + 1)))]) hl [2, 3, 1, 0] rfl) ?_)
          rw [show (nI ((tA k g j) + 1)) = (nI (tA k g (j + 1))) from (by rw [tA]; simp only [c_9, n_9, c_19, n_27, if_true, if_false, Bool.false_eq_true, decide_true, decide_false, Bool.true_and, Bool.false_and, Bool.not_true, Bool.not_false, reduceIte])]
  exact key_4 (k.2 2) 0 (by omega) _ _ hT hS ls (lv_sub hl [2, 3, 1, 0] rfl)

set_option maxHeartbeats 4000000 in
set_option maxRecDepth 100000 in
theorem m_X6_thinClouds {X : Cx} {l : Launch} (h0 : Init X) {ow : Nat → Nat} {t : Nat} {f : Nat → Nat} {k : Sk} (hO : Ok k) (hz : ∀ q, ow q = t → X.z ≤ q)  : MM X l yX6_thinClouds cX6_thinClouds 2 none 1 15 0 0 [.ref (f 1)] (Tw X ow t (skW X f k)) (fun v H => v = none ∧ Tw X ow t (skW X f (tC k 4)) H) (fun q => ow q = t) := by
  refine Met.mk (Bh := (Tw X ow t (skW X f k))) (by decide) (Nat.le_of_ble_eq_true rfl) ?_
  intro p e s m below meth c ls hF hB hl
  have hT := hB
  have hl : lv_has ls 2 [(0, .ref (f 1))] := hl
  obtain ⟨hx, hb, hml, hr, hlk, hown, hG⟩ := id hF
  have hK := hG.K h0
  have hS : va_S (fun q => ow q = t) s.heap s.heap [] := va_S.rf
  have hO1 := hO.1
  have hO2 := hO.2.1
  have hO3 := hO.2.2.1
  have hAo : ∀ q, q < X.z → ¬ (fun q => ow q = t) q := fun q h9 (h8 : ow q = t) => absurd (hz q h8) (by omega)
  refine lv_iconst (v := 0) hx hb dX6_thinClouds_0 (by decide) ?_
  refine lv_istore_n (lv' := [(1, .int 0), (0, .ref (f 1))]) hx hb dX6_thinClouds_1 rfl hl (by decide) rfl (fun ls hl => ?_)
  have key_2 : ∀ (nf j : Nat), j + nf = 4 → ∀ (H : Heap) (locs : List Loc), Tw X ow t (skW X f (tC k j)) H → va_S (fun q => ow q = t) s.heap H locs → ∀ (ls : Array Slot), lv_has ls 2 [(0, .ref (f 1)), (1, .int (nI j))] → W p l e ({ frames := 1, cells := 0, slots := 0, locals := 15 } : Room) s m ([.ref (f 1)] : List Value).toArray below meth c H locs 0 0 (MQ below (qM (fun v H => v = none ∧ Tw X ow t (skW X f (tC k 4)) H) (fun q => ow q = t)) ([.ref (f 1)] : List Value).toArray s 0 0 (fun q => ow q = t)) (F0 m 2 ls []) := by
    intro nf
    induction nf with
    | zero =>
      intro j hj H locs hT hS ls hl
      have hj_e : j = 4 := by omega
      refine lv_iload_n hx hb dX6_thinClouds_2 rfl (lv_at hl 1 rfl) ?_
      refine lv_iconst (v := 4) hx hb dX6_thinClouds_3 (by decide) ?_
      refine lv_icmp_ge (tgt := 31) hx hb dX6_thinClouds_4 (by decide) (fun c_4 => ?_) (fun c_4 => absurd (nI_le (a := 4) (b := j) (by omega) (by omega)) c_4)
      have n_4 := Int32.not_lt.mpr c_4
      exact mm_vret hF hS dX6_thinClouds_31 (by rw [hj_e] at hT; exact ⟨rfl, hT⟩)
    | succ nf ih_2 =>
      intro j hj H locs hT hS ls hl
      have hj_l : j < 4 := by omega
      refine lv_iload_n hx hb dX6_thinClouds_2 rfl (lv_at hl 1 rfl) ?_
      refine lv_iconst (v := 4) hx hb dX6_thinClouds_3 (by decide) ?_
      refine lv_icmp_ge (tgt := 31) hx hb dX6_thinClouds_4 (by decide) (fun c_4 => absurd c_4 (nI_ge (a := j) (b := 4) (by omega) (by omega))) (fun c_4 => ?_)
      have n_4 := Int32.not_le.mp c_4
      refine lv_aload_n hx hb dX6_thinClouds_7 rfl (lv_at hl 0 rfl) ?_
      refine g_get (ci := 5) (v := .ref (f 8)) h0 hF inX6 hT.1 1 rfl rfl 5 (by decide) wf_X6_24 rfl rfl dX6_thinClouds_8 ?_
      refine lv_iload_n hx hb dX6_thinClouds_11 rfl (lv_at hl 1 rfl) ?_
      refine lv_aload_n hx hb dX6_thinClouds_12 rfl (lv_at hl 0 rfl) ?_
      refine g_get (ci := 5) (v := .ref (f 8)) h0 hF inX6 hT.1 1 rfl rfl 5 (by decide) wf_X6_24 rfl rfl dX6_thinClouds_13 ?_
      refine lv_iload_n hx hb dX6_thinClouds_16 rfl (lv_at hl 1 rfl) ?_
      refine g_iald hx hb hK hT.1 8 0 rfl rfl j (rfl) (by omega) (by decide) dX6_thinClouds_17 ?_
      refine lv_iconst (v := 1) hx hb dX6_thinClouds_18 (by decide) ?_
      refine lv_isub hx hb dX6_thinClouds_19 ?_
      refine lv_iconst (v := 0) hx hb dX6_thinClouds_20 (by decide) ?_
      refine va_mmax hx hb (by rw [hl.1]; exact hml) hown (hG.hts h0 _ _ wm_X6_43) (hG.hts h0 _ _ wt_J9_max_7cf53) (hG.hts h0 _ _ wz_J9) (hG.hts h0 _ _ wc_J9_max_7cf53) (Nat.le_of_ble_eq_true rfl) (Nat.le_of_ble_eq_true rfl) (Nat.zero_le _) (Nat.zero_le _) dX6_thinClouds_21 ?_
      have htg := hT.tag 8 rfl
      refine g_iast hx hb hK hT hS (htg) 8 0 rfl rfl j (rfl) (by omega) (by decide) dX6_thinClouds_24 (fun H locs oq hT' hS => ?_)
      have hT : Tw X ow t (skW X f (sU (tC k j) 4 j (if ((tC k j).1 4 j) - 1 < 0 then 0 else ((tC k j).1 4 j) - 1))) H := hT'.to (skS_4 X f (tC k j) j (if ((tC k j).1 4 j) - 1 < 0 then 0 else ((tC k j).1 4 j) - 1))
      refine lv_iinc (v := nI (j + 1)) (lv' := [(1, .int (nI (j + 1))), (0, .ref (f 1))]) hx hb dX6_thinClouds_25 hl (k := 1) rfl (nI_1 j) (by decide) rfl (fun ls hl => ?_)
      refine lv_goto (tgt := 2) hx hb dX6_thinClouds_28 (by decide) ?_
      rw [show (sU (tC k j) 4 j (if ((tC k j).1 4 j) - 1 < 0 then 0 else ((tC k j).1 4 j) - 1)) = (tC k (j + 1)) from (rfl)] at hT
      refine ih_2 (j + 1) (by omega) _ _ hT hS ls (lv_eqv (lv_sub (l' := [(0, .ref (f 1)), (1, .int (nI (j + 1)))]) hl [1, 0] rfl) ?_)
      rfl
  exact key_2 (4) 0 (by omega) _ _ hT hS ls (lv_sub hl [1, 0] rfl)

set_option maxHeartbeats 4000000 in
set_option maxRecDepth 100000 in
theorem m_X4_beginNight {X : Cx} {l : Launch} (h0 : Init X) {ow : Nat → Nat} {t : Nat} {f : Nat → Nat} {k : Sk} (hO : Ok k) (hz : ∀ q, ow q = t → X.z ≤ q)  : MM X l yX4_beginNight cX4_beginNight 2 none 1 15 0 0 [.ref (f 2)] (Tw X ow t (skW X f k)) (fun v H => v = none ∧ Tw X ow t (skW X f (bN k (k.2 1))) H) (fun q => ow q = t) := by
  refine Met.mk (Bh := (Tw X ow t (skW X f k))) (by decide) (Nat.le_of_ble_eq_true rfl) ?_
  intro p e s m below meth c ls hF hB hl
  have hT := hB
  have hl : lv_has ls 2 [(0, .ref (f 2))] := hl
  obtain ⟨hx, hb, hml, hr, hlk, hown, hG⟩ := id hF
  have hK := hG.K h0
  have hS : va_S (fun q => ow q = t) s.heap s.heap [] := va_S.rf
  have hO1 := hO.1
  have hO2 := hO.2.1
  have hO3 := hO.2.2.1
  have hAo : ∀ q, q < X.z → ¬ (fun q => ow q = t) q := fun q h9 (h8 : ow q = t) => absurd (hz q h8) (by omega)
  refine lv_iconst (v := 0) hx hb dX4_beginNight_0 (by decide) ?_
  refine lv_istore_n (lv' := [(1, .int 0), (0, .ref (f 2))]) hx hb dX4_beginNight_1 rfl hl (by decide) rfl (fun ls hl => ?_)
  have key_2 : ∀ (nf j : Nat), j + nf = k.2 1 → ∀ (H : Heap) (locs : List Loc), Tw X ow t (skW X f (bN k j)) H → va_S (fun q => ow q = t) s.heap H locs → ∀ (ls : Array Slot), lv_has ls 2 [(0, .ref (f 2)), (1, .int (nI j))] → W p l e ({ frames := 1, cells := 0, slots := 0, locals := 15 } : Room) s m ([.ref (f 2)] : List Value).toArray below meth c H locs 0 0 (MQ below (qM (fun v H => v = none ∧ Tw X ow t (skW X f (bN k (k.2 1))) H) (fun q => ow q = t)) ([.ref (f 2)] : List Value).toArray s 0 0 (fun q => ow q = t)) (F0 m 2 ls []) := by
    intro nf
    induction nf with
    | zero =>
      intro j hj H locs hT hS ls hl
      have hj_e : j = k.2 1 := by omega
      have e2 := bN_2 k j
      refine lv_iload_n hx hb dX4_beginNight_2 rfl (lv_at hl 1 rfl) ?_
      refine lv_aload_n hx hb dX4_beginNight_3 rfl (lv_at hl 0 rfl) ?_
      refine g_get (ci := 3) (v := .int (nI ((bN k j).2 1))) h0 hF inX4 hT.1 2 rfl rfl 0 (by decide) wf_X4_39 rfl rfl dX4_beginNight_4 ?_
      refine lv_topE (y := nI (k.2 1)) (by rw [e2]) ?_
      refine lv_icmp_ge (tgt := 48) hx hb dX4_beginNight_7 (by decide) (fun c_7 => ?_) (fun c_7 => absurd (nI_le (a := k.2 1) (b := j) (by omega) (by omega)) c_7)
      have n_7 := Int32.not_lt.mpr c_7
      exact mm_vret hF hS dX4_beginNight_48 (by rw [hj_e] at hT; exact ⟨rfl, hT⟩)
    | succ nf ih_2 =>
      intro j hj H locs hT hS ls hl
      have hj_l : j < k.2 1 := by omega
      have e2 := bN_2 k j
      refine lv_iload_n hx hb dX4_beginNight_2 rfl (lv_at hl 1 rfl) ?_
      refine lv_aload_n hx hb dX4_beginNight_3 rfl (lv_at hl 0 rfl) ?_
      refine g_get (ci := 3) (v := .int (nI ((bN k j).2 1))) h0 hF inX4 hT.1 2 rfl rfl 0 (by decide) wf_X4_39 rfl rfl dX4_beginNight_4 ?_
      refine lv_topE (y := nI (k.2 1)) (by rw [e2]) ?_
      refine lv_icmp_ge (tgt := 48) hx hb dX4_beginNight_7 (by decide) (fun c_7 => absurd c_7 (nI_ge (a := j) (b := k.2 1) (by omega) (by omega))) (fun c_7 => ?_)
      have n_7 := Int32.not_le.mp c_7
      refine lv_aload_n hx hb dX4_beginNight_10 rfl (lv_at hl 0 rfl) ?_
      refine g_get (ci := 3) (v := .ref (f 11)) h0 hF inX4 hT.1 2 rfl rfl 3 (by decide) wf_X4_18 rfl rfl dX4_beginNight_11 ?_
      refine lv_iload_n hx hb dX4_beginNight_14 rfl (lv_at hl 1 rfl) ?_
      refine lv_aload_n hx hb dX4_beginNight_15 rfl (lv_at hl 0 rfl) ?_
      refine g_get (ci := 3) (v := .ref (f 11)) h0 hF inX4 hT.1 2 rfl rfl 3 (by decide) wf_X4_18 rfl rfl dX4_beginNight_16 ?_
      refine lv_iload_n hx hb dX4_beginNight_19 rfl (lv_at hl 1 rfl) ?_
      refine g_iald hx hb hK hT.1 11 0 rfl rfl j (rfl) (by omega) (by decide) dX4_beginNight_20 ?_
      refine lv_iconst (v := 1) hx hb dX4_beginNight_21 (by decide) ?_
      refine lv_isub hx hb dX4_beginNight_22 ?_
      refine lv_iconst (v := 0) hx hb dX4_beginNight_23 (by decide) ?_
      refine va_mmax hx hb (by rw [hl.1]; exact hml) hown (hG.hts h0 _ _ wm_X4_57) (hG.hts h0 _ _ wt_J9_max_7cf53) (hG.hts h0 _ _ wz_J9) (hG.hts h0 _ _ wc_J9_max_7cf53) (Nat.le_of_ble_eq_true rfl) (Nat.le_of_ble_eq_true rfl) (Nat.zero_le _) (Nat.zero_le _) dX4_beginNight_24 ?_
      have htg := hT.tag 11 rfl
      refine g_iast hx hb hK hT hS (htg) 11 0 rfl rfl j (rfl) (by omega) (by decide) dX4_beginNight_27 (fun H locs oq hT' hS => ?_)
      have hT : Tw X ow t (skW X f (sU (bN k j) 7 j (if ((bN k j).1 7 j) - 1 < 0 then 0 else ((bN k j).1 7 j) - 1))) H := hT'.to (skS_7 X f (bN k j) j (if ((bN k j).1 7 j) - 1 < 0 then 0 else ((bN k j).1 7 j) - 1))
      refine lv_aload_n hx hb dX4_beginNight_28 rfl (lv_at hl 0 rfl) ?_
      refine g_get (ci := 3) (v := .ref (f 16)) h0 hF inX4 hT.1 2 rfl rfl 8 (by decide) wf_X4_33 rfl rfl dX4_beginNight_29 ?_
      refine lv_iload_n hx hb dX4_beginNight_32 rfl (lv_at hl 1 rfl) ?_
      refine lv_iconst (v := 0) hx hb dX4_beginNight_33 (by decide) ?_
      have htg := hT.tag 16 rfl
      refine g_iast hx hb hK hT hS (htg) 16 0 rfl rfl j (rfl) (by omega) (by decide) dX4_beginNight_34 (fun H locs oq hT' hS => ?_)
      have hT : Tw X ow t (skW X f (sU (sU (bN k j) 7 j (if ((bN k j).1 7 j) - 1 < 0 then 0 else ((bN k j).1 7 j) - 1)) 12 j 0)) H := hT'.to (skS_12 X f (sU (bN k j) 7 j (if ((bN k j).1 7 j) - 1 < 0 then 0 else ((bN k j).1 7 j) - 1)) j 0)
      refine lv_aload_n hx hb dX4_beginNight_35 rfl (lv_at hl 0 rfl) ?_
      refine g_get (ci := 3) (v := .ref (f 17)) h0 hF inX4 hT.1 2 rfl rfl 9 (by decide) wf_X4_36 rfl rfl dX4_beginNight_36 ?_
      refine lv_iload_n hx hb dX4_beginNight_39 rfl (lv_at hl 1 rfl) ?_
      refine lv_iconst (v := 0) hx hb dX4_beginNight_40 (by decide) ?_
      have htg := hT.tag 17 rfl
      refine g_iast hx hb hK hT hS (htg) 17 0 rfl rfl j (rfl) (by omega) (by decide) dX4_beginNight_41 (fun H locs oq hT' hS => ?_)
      have hT : Tw X ow t (skW X f (sU (sU (sU (bN k j) 7 j (if ((bN k j).1 7 j) - 1 < 0 then 0 else ((bN k j).1 7 j) - 1)) 12 j 0) 13 j 0)) H := hT'.to (skS_13 X f (sU (sU (bN k j) 7 j (if ((bN k j).1 7 j) - 1 < 0 then 0 else ((bN k j).1 7 j) - 1)) 12 j 0) j 0)
      refine lv_iinc (v := nI (j + 1)) (lv' := [(1, .int (nI (j + 1))), (0, .ref (f 2))]) hx hb dX4_beginNight_42 hl (k := 1) rfl (nI_1 j) (by decide) rfl (fun ls hl => ?_)
      refine lv_goto (tgt := 2) hx hb dX4_beginNight_45 (by decide) ?_
      rw [show (sU (sU (sU (bN k j) 7 j (if ((bN k j).1 7 j) - 1 < 0 then 0 else ((bN k j).1 7 j) - 1)) 12 j 0) 13 j 0) = (bN k (j + 1)) from (rfl)] at hT
      refine ih_2 (j + 1) (by omega) _ _ hT hS ls (lv_eqv (lv_sub (l' := [(0, .ref (f 2)), (1, .int (nI (j + 1)))]) hl [1, 0] rfl) ?_)
      rfl
  exact key_2 (k.2 1) 0 (by omega) _ _ hT hS ls (lv_sub hl [1, 0] rfl)

set_option maxHeartbeats 4000000 in
set_option maxRecDepth 100000 in
theorem m_X4_collect {X : Cx} {l : Launch} (h0 : Init X) {ow : Nat → Nat} {t : Nat} {f : Nat → Nat} {k : Sk} (hO : Ok k) (hz : ∀ q, ow q = t → X.z ≤ q) (x : Int32) (j : Nat) (hxj : x = nI j) (hj : j < k.2 1) (lv cm : Int32) : MM X l yX4_collect cX4_collect 5 none 1 21 0 0 [.ref (f 2), .int x, .int lv, .int cm] (Tw X ow t (skW X f k)) (fun v H => v = none ∧ Tw X ow t (skW X f (colS k j lv cm)) H) (fun q => ow q = t) := by
  subst hxj
  refine Met.mk (Bh := (Tw X ow t (skW X f k))) (by decide) (Nat.le_of_ble_eq_true rfl) ?_
  intro p e s m below meth c ls hF hB hl
  have hT := hB
  have hl : lv_has ls 5 [(0, .ref (f 2)), (1, .int (nI j)), (2, .int lv), (3, .int cm)] := hl
  obtain ⟨hx, hb, hml, hr, hlk, hown, hG⟩ := id hF
  have hK := hG.K h0
  have hS : va_S (fun q => ow q = t) s.heap s.heap [] := va_S.rf
  have hO1 := hO.1
  have hO2 := hO.2.1
  have hO3 := hO.2.2.1
  have hAo : ∀ q, q < X.z → ¬ (fun q => ow q = t) q := fun q h9 (h8 : ow q = t) => absurd (hz q h8) (by omega)
  refine lv_aload_n hx hb dX4_collect_0 rfl (lv_at hl 0 rfl) ?_
  refine g_get (ci := 3) (v := .ref (f 9)) h0 hF inX4 hT.1 2 rfl rfl 1 (by decide) wf_X4_9 rfl rfl dX4_collect_1 ?_
  refine lv_iload_n hx hb dX4_collect_4 rfl (lv_at hl 1 rfl) ?_
  refine g_iald hx hb hK hT.1 9 0 rfl rfl j (rfl) (by omega) (by decide) dX4_collect_5 ?_
  refine lv_iload_n hx hb dX4_collect_6 rfl (lv_at hl 2 rfl) ?_
  refine va_mmin hx hb (by rw [hl.1]; exact hml) hown (hG.hts h0 _ _ wm_X4_47) (hG.hts h0 _ _ wt_J9_min_7cf53) (hG.hts h0 _ _ wz_J9) (hG.hts h0 _ _ wc_J9_min_7cf53) (Nat.le_of_ble_eq_true rfl) (Nat.le_of_ble_eq_true rfl) (Nat.zero_le _) (Nat.zero_le _) dX4_collect_7 ?_
  refine lv_topE (y := payI (k.1 5 j) lv) (rfl) ?_
  refine lv_istore (lv' := [(4, .int (payI (k.1 5 j) lv)), (0, .ref (f 2)), (1, .int (nI j)), (2, .int lv), (3, .int cm)]) hx hb dX4_collect_10 hl (by decide) rfl (fun ls hl => ?_)
  refine lv_aload_n hx hb dX4_collect_12 rfl (lv_at hl 1 rfl) ?_
  refine g_get (ci := 3) (v := .ref (f 9)) h0 hF inX4 hT.1 2 rfl rfl 1 (by decide) wf_X4_9 rfl rfl dX4_collect_13 ?_
  refine lv_iload_n hx hb dX4_collect_16 rfl (lv_at hl 2 rfl) ?_
  refine lv_dup2_11 hx hb dX4_collect_17 rfl rfl ?_
  refine g_iald hx hb hK hT.1 9 0 rfl rfl j (rfl) (by omega) (by decide) dX4_collect_18 ?_
  refine lv_iload hx hb dX4_collect_19 (lv_at hl 0 rfl) ?_
  refine lv_isub hx hb dX4_collect_21 ?_
  have htg := hT.tag 9 rfl
  refine g_iast hx hb hK hT hS (htg) 9 0 rfl rfl j (rfl) (by omega) (by decide) dX4_collect_22 (fun H locs oq hT' hS => ?_)
  have hT : Tw X ow t (skW X f (sU k 5 j ((k.1 5 j) - (payI (k.1 5 j) lv)))) H := hT'.to (skS_5 X f k j ((k.1 5 j) - (payI (k.1 5 j) lv)))
  refine lv_aload_n hx hb dX4_collect_23 rfl (lv_at hl 1 rfl) ?_
  refine g_get (ci := 3) (v := .ref (f 10)) h0 hF inX4 hT.1 2 rfl rfl 2 (by decide) wf_X4_15 rfl rfl dX4_collect_24 ?_
  refine lv_iload_n hx hb dX4_collect_27 rfl (lv_at hl 2 rfl) ?_
  refine lv_dup2_11 hx hb dX4_collect_28 rfl rfl ?_
  refine g_iald hx hb hK hT.1 10 0 rfl rfl j (rfl) (by omega) (by decide) dX4_collect_29 ?_
  refine lv_iload_n hx hb dX4_collect_30 rfl (lv_at hl 3 rfl) ?_
  refine lv_iload hx hb dX4_collect_31 (lv_at hl 0 rfl) ?_
  refine lv_isub hx hb dX4_collect_33 ?_
  refine lv_iadd hx hb dX4_collect_34 ?_
  have htg := hT.tag 10 rfl
  refine g_iast hx hb hK hT hS (htg) 10 0 rfl rfl j (rfl) (by omega) (by decide) dX4_collect_35 (fun H locs oq hT' hS => ?_)
  have hT : Tw X ow t (skW X f (sU (sU k 5 j ((k.1 5 j) - (payI (k.1 5 j) lv))) 6 j ((k.1 6 j) + (lv - (payI (k.1 5 j) lv))))) H := hT'.to (skS_6 X f (sU k 5 j ((k.1 5 j) - (payI (k.1 5 j) lv))) j ((k.1 6 j) + (lv - (payI (k.1 5 j) lv))))
  refine lv_aload_n hx hb dX4_collect_36 rfl (lv_at hl 1 rfl) ?_
  refine g_get (ci := 3) (v := .ref (f 12)) h0 hF inX4 hT.1 2 rfl rfl 4 (by decide) wf_X4_21 rfl rfl dX4_collect_37 ?_
  refine lv_iload_n hx hb dX4_collect_40 rfl (lv_at hl 2 rfl) ?_
  refine lv_dup2_11 hx hb dX4_collect_41 rfl rfl ?_
  refine g_iald hx hb hK hT.1 12 0 rfl rfl j (rfl) (by omega) (by decide) dX4_collect_42 ?_
  refine lv_iload_n hx hb dX4_collect_43 rfl (lv_at hl 3 rfl) ?_
  refine lv_iadd hx hb dX4_collect_44 ?_
  have htg := hT.tag 12 rfl
  refine g_iast hx hb hK hT hS (htg) 12 0 rfl rfl j (rfl) (by omega) (by decide) dX4_collect_45 (fun H locs oq hT' hS => ?_)
  have hT : Tw X ow t (skW X f (sU (sU (sU k 5 j ((k.1 5 j) - (payI (k.1 5 j) lv))) 6 j ((k.1 6 j) + (lv - (payI (k.1 5 j) lv)))) 8 j ((k.1 8 j) + lv))) H := hT'.to (skS_8 X f (sU (sU k 5 j ((k.1 5 j) - (payI (k.1 5 j) lv))) 6 j ((k.1 6 j) + (lv - (payI (k.1 5 j) lv)))) j ((k.1 8 j) + lv))
  refine lv_aload_n hx hb dX4_collect_46 rfl (lv_at hl 1 rfl) ?_
  refine g_get (ci := 3) (v := .ref (f 13)) h0 hF inX4 hT.1 2 rfl rfl 5 (by decide) wf_X4_24 rfl rfl dX4_collect_47 ?_
  refine lv_iload_n hx hb dX4_collect_50 rfl (lv_at hl 2 rfl) ?_
  refine lv_dup2_11 hx hb dX4_collect_51 rfl rfl ?_
  refine g_iald hx hb hK hT.1 13 0 rfl rfl j (rfl) (by omega) (by decide) dX4_collect_52 ?_
  refine lv_iload hx hb dX4_collect_53 (lv_at hl 0 rfl) ?_
  refine lv_iadd hx hb dX4_collect_55 ?_
  have htg := hT.tag 13 rfl
  refine g_iast hx hb hK hT hS (htg) 13 0 rfl rfl j (rfl) (by omega) (by decide) dX4_collect_56 (fun H locs oq hT' hS => ?_)
  have hT : Tw X ow t (skW X f (sU (sU (sU (sU k 5 j ((k.1 5 j) - (payI (k.1 5 j) lv))) 6 j ((k.1 6 j) + (lv - (payI (k.1 5 j) lv)))) 8 j ((k.1 8 j) + lv)) 9 j ((k.1 9 j) + (payI (k.1 5 j) lv)))) H := hT'.to (skS_9 X f (sU (sU (sU k 5 j ((k.1 5 j) - (payI (k.1 5 j) lv))) 6 j ((k.1 6 j) + (lv - (payI (k.1 5 j) lv)))) 8 j ((k.1 8 j) + lv)) j ((k.1 9 j) + (payI (k.1 5 j) lv)))
  refine lv_aload_n hx hb dX4_collect_57 rfl (lv_at hl 1 rfl) ?_
  refine lv_iload_n hx hb dX4_collect_58 rfl (lv_at hl 4 rfl) ?_
  refine core_p (v := .int (bI (hasB (k.2 1) cm))) (grV (n := 1) (As := [.int cm]) (rest := []) h0 hF (m_X4_has h0 (f := f) (k := (sU (sU (sU (sU k 5 j ((k.1 5 j) - (payI (k.1 5 j) lv))) 6 j ((k.1 6 j) + (lv - (payI (k.1 5 j) lv)))) 8 j ((k.1 8 j) + lv)) 9 j ((k.1 9 j) + (payI (k.1 5 j) lv)))) (Ok_sU _ _ (by decide) (Ok_sU _ _ (by decide) (Ok_sU _ _ (by decide) (Ok_sU _ _ (by decide) hO))))  cm) wm_X4_53 wo_X4_has ws_X4__X4_has wz_X4 wc_X4_has ⟨by decide, by decide, by decide +kernel⟩ rfl ⟨Nat.le_of_ble_eq_true rfl, Nat.le_of_ble_eq_true rfl⟩ (ci := 3) ⟨_, hT.1 2 _ rfl⟩ rfl hT.1 hS hAo ⟨Nat.le_of_ble_eq_true rfl, Nat.le_of_ble_eq_true rfl⟩ hl.1 rfl (Nat.le_of_ble_eq_true rfl) dX4_collect_59) ?_
  refine lv_if_eq (tgt := 78) hx hb dX4_collect_62 (by decide) (fun c_62 => ?_) (fun c_62 => ?_)
  · have n_62 := bI_0.mp c_62
    exact mm_vret hF hS dX4_collect_78 (by refine ⟨rfl, ?_⟩; rw [show colS k j lv cm = sU (sU (sU (sU k 5 j ((k.1 5 j) - (payI (k.1 5 j) lv))) 6 j ((k.1 6 j) + (lv - (payI (k.1 5 j) lv)))) 8 j ((k.1 8 j) + lv)) 9 j ((k.1 9 j) + (payI (k.1 5 j) lv)) from (by simp only [colS, n_62, if_true, if_false, Bool.false_eq_true, reduceIte]; rfl)]; exact hT)
  · have n_62 := bI_n0.mp c_62
    have hc := hasB_tn n_62 (by omega)
    have hc2 := hc.2
    refine lv_aload_n hx hb dX4_collect_65 rfl (lv_at hl 1 rfl) ?_
    refine g_get (ci := 3) (v := .ref (f 9)) h0 hF inX4 hT.1 2 rfl rfl 1 (by decide) wf_X4_9 rfl rfl dX4_collect_66 ?_
    refine lv_iload_n hx hb dX4_collect_69 rfl (lv_at hl 4 rfl) ?_
    refine lv_dup2_11 hx hb dX4_collect_70 rfl rfl ?_
    refine g_iald hx hb hK hT.1 9 0 rfl rfl (tn cm) (hc.1) (by omega) (by decide) dX4_collect_71 ?_
    refine lv_iload hx hb dX4_collect_72 (lv_at hl 0 rfl) ?_
    refine lv_iconst (v := 2) hx hb dX4_collect_74 (by decide) ?_
    refine lv_idiv hx hb dX4_collect_75 (by decide) ?_
    refine lv_iadd hx hb dX4_collect_76 ?_
    have htg := hT.tag 9 rfl
    refine g_iast hx hb hK hT hS (htg) 9 0 rfl rfl (tn cm) (hc.1) (by omega) (by decide) dX4_collect_77 (fun H locs oq hT' hS => ?_)
    have hT : Tw X ow t (skW X f (sU (sU (sU (sU (sU k 5 j ((k.1 5 j) - (payI (k.1 5 j) lv))) 6 j ((k.1 6 j) + (lv - (payI (k.1 5 j) lv)))) 8 j ((k.1 8 j) + lv)) 9 j ((k.1 9 j) + (payI (k.1 5 j) lv))) 5 (tn cm) (((sU k 5 j ((k.1 5 j) - (payI (k.1 5 j) lv))).1 5 (tn cm)) + ((payI (k.1 5 j) lv) / 2)))) H := hT'.to (skS_5 X f (sU (sU (sU (sU k 5 j ((k.1 5 j) - (payI (k.1 5 j) lv))) 6 j ((k.1 6 j) + (lv - (payI (k.1 5 j) lv)))) 8 j ((k.1 8 j) + lv)) 9 j ((k.1 9 j) + (payI (k.1 5 j) lv))) (tn cm) (((sU k 5 j ((k.1 5 j) - (payI (k.1 5 j) lv))).1 5 (tn cm)) + ((payI (k.1 5 j) lv) / 2)))
    exact mm_vret hF hS dX4_collect_78 (by refine ⟨rfl, ?_⟩; rw [show colS k j lv cm = sU (sU (sU (sU (sU k 5 j ((k.1 5 j) - (payI (k.1 5 j) lv))) 6 j ((k.1 6 j) + (lv - (payI (k.1 5 j) lv)))) 8 j ((k.1 8 j) + lv)) 9 j ((k.1 9 j) + (payI (k.1 5 j) lv))) 5 (tn cm) (((sU k 5 j ((k.1 5 j) - (payI (k.1 5 j) lv))).1 5 (tn cm)) + ((payI (k.1 5 j) lv) / 2)) from (by simp only [colS, n_62, if_true, if_false, Bool.false_eq_true, reduceIte]; rfl)]; exact hT)
