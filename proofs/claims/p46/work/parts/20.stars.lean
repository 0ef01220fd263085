set_option maxHeartbeats 4000000 in
set_option maxRecDepth 100000 in
theorem m_X6_has {X : Cx} {l : Launch} (h0 : Init X) {f : Nat → Nat} {k : Sk} (hO : Ok k)  (i : Int32) : PM X l yX6_has cX6_has 2 (some .boolean) 0 0 [.ref (f 1), .int i] (va_P X.D vwCl (skW X f k)) (.int (bI (hasB (k.2 0) i))) := by
  refine Met.mk (Bh := va_P X.D vwCl (skW X f k)) (by decide) (Nat.le_of_ble_eq_true rfl) ?_
  intro p e s m below meth c ls hF hB hl
  have hl : lv_has ls 2 [(0, .ref (f 1)), (1, .int i)] := hl
  obtain ⟨hx, hb, hml, hr, hlk, hown, hG⟩ := id hF
  have hK := hG.K h0
  have hS : va_S noA s.heap s.heap [] := va_S.rf
  have hO1 := hO.1
  have hO2 := hO.2.1
  have hO3 := hO.2.2.1
  refine lv_iload_n hx hb dX6_has_0 rfl (lv_at hl 1 rfl) ?_
  refine lv_if_lt (tgt := 16) hx hb dX6_has_1 (by decide) (fun c_1 => ?_) (fun c_1 => ?_)
  · have n_1 := Int32.not_le.mpr c_1
    refine lv_iconst (v := 0) hx hb dX6_has_16 (by decide) ?_
    exact pm_zret hF dX6_has_17 rfl (by simp [bI, hasB, c_1, n_1])
  · have n_1 := Int32.not_lt.mp c_1
    refine lv_iload_n hx hb dX6_has_4 rfl (lv_at hl 1 rfl) ?_
    refine lv_aload_n hx hb dX6_has_5 rfl (lv_at hl 0 rfl) ?_
    refine g_get (ci := 5) (v := .int (nI (k.2 0))) h0 hF inX6 hB 1 rfl rfl 0 (by decide) wf_X6_27 rfl rfl dX6_has_6 ?_
    refine lv_icmp_ge (tgt := 16) hx hb dX6_has_9 (by decide) (fun c_9 => ?_) (fun c_9 => ?_)
    · have n_9 := Int32.not_lt.mpr c_9
      refine lv_iconst (v := 0) hx hb dX6_has_16 (by decide) ?_
      exact pm_zret hF dX6_has_17 rfl (by simp [bI, hasB, c_1, n_1, c_9, n_9])
    · have n_9 := Int32.not_le.mp c_9
      refine lv_iconst (v := 1) hx hb dX6_has_12 (by decide) ?_
      refine lv_goto (tgt := 17) hx hb dX6_has_13 (by decide) ?_
      exact pm_zret hF dX6_has_17 rfl (by simp [bI, hasB, c_1, n_1, c_9, n_9])

set_option maxHeartbeats 4000000 in
set_option maxRecDepth 100000 in
theorem m_X4_has {X : Cx} {l : Launch} (h0 : Init X) {f : Nat → Nat} {k : Sk} (hO : Ok k)  (i : Int32) : PM X l yX4_has cX4_has 2 (some .boolean) 0 0 [.ref (f 2), .int i] (va_P X.D vwCl (skW X f k)) (.int (bI (hasB (k.2 1) i))) := by
  refine Met.mk (Bh := va_P X.D vwCl (skW X f k)) (by decide) (Nat.le_of_ble_eq_true rfl) ?_
  intro p e s m below meth c ls hF hB hl
  have hl : lv_has ls 2 [(0, .ref (f 2)), (1, .int i)] := hl
  obtain ⟨hx, hb, hml, hr, hlk, hown, hG⟩ := id hF
  have hK := hG.K h0
  have hS : va_S noA s.heap s.heap [] := va_S.rf
  have hO1 := hO.1
  have hO2 := hO.2.1
  have hO3 := hO.2.2.1
  refine lv_iload_n hx hb dX4_has_0 rfl (lv_at hl 1 rfl) ?_
  refine lv_if_lt (tgt := 16) hx hb dX4_has_1 (by decide) (fun c_1 => ?_) (fun c_1 => ?_)
  · have n_1 := Int32.not_le.mpr c_1
    refine lv_iconst (v := 0) hx hb dX4_has_16 (by decide) ?_
    exact pm_zret hF dX4_has_17 rfl (by simp [bI, hasB, c_1, n_1])
  · have n_1 := Int32.not_lt.mp c_1
    refine lv_iload_n hx hb dX4_has_4 rfl (lv_at hl 1 rfl) ?_
    refine lv_aload_n hx hb dX4_has_5 rfl (lv_at hl 0 rfl) ?_
    refine g_get (ci := 3) (v := .int (nI (k.2 1))) h0 hF inX4 hB 2 rfl rfl 0 (by decide) wf_X4_39 rfl rfl dX4_has_6 ?_
    refine lv_icmp_ge (tgt := 16) hx hb dX4_has_9 (by decide) (fun c_9 => ?_) (fun c_9 => ?_)
    · have n_9 := Int32.not_lt.mpr c_9
      refine lv_iconst (v := 0) hx hb dX4_has_16 (by decide) ?_
      exact pm_zret hF dX4_has_17 rfl (by simp [bI, hasB, c_1, n_1, c_9, n_9])
    · have n_9 := Int32.not_le.mp c_9
      refine lv_iconst (v := 1) hx hb dX4_has_12 (by decide) ?_
      refine lv_goto (tgt := 17) hx hb dX4_has_13 (by decide) ?_
      exact pm_zret hF dX4_has_17 rfl (by simp [bI, hasB, c_1, n_1, c_9, n_9])

set_option maxHeartbeats 4000000 in
set_option maxRecDepth 100000 in
theorem m_X7_has {X : Cx} {l : Launch} (h0 : Init X) {f : Nat → Nat} {k : Sk} (hO : Ok k)  (i : Int32) : PM X l yX7_has cX7_has 2 (some .boolean) 0 0 [.ref (f 3), .int i] (va_P X.D vwCl (skW X f k)) (.int (bI (hasB (k.2 2) i))) := by
  refine Met.mk (Bh := va_P X.D vwCl (skW X f k)) (by decide) (Nat.le_of_ble_eq_true rfl) ?_
  intro p e s m below meth c ls hF hB hl
  have hl : lv_has ls 2 [(0, .ref (f 3)), (1, .int i)] := hl
  obtain ⟨hx, hb, hml, hr, hlk, hown, hG⟩ := id hF
  have hK := hG.K h0
  have hS : va_S noA s.heap s.heap [] := va_S.rf
  have hO1 := hO.1
  have hO2 := hO.2.1
  have hO3 := hO.2.2.1
  refine lv_iload_n hx hb dX7_has_0 rfl (lv_at hl 1 rfl) ?_
  refine lv_if_lt (tgt := 16) hx hb dX7_has_1 (by decide) (fun c_1 => ?_) (fun c_1 => ?_)
  · have n_1 := Int32.not_le.mpr c_1
    refine lv_iconst (v := 0) hx hb dX7_has_16 (by decide) ?_
    exact pm_zret hF dX7_has_17 rfl (by simp [bI, hasB, c_1, n_1])
  · have n_1 := Int32.not_lt.mp c_1
    refine lv_iload_n hx hb dX7_has_4 rfl (lv_at hl 1 rfl) ?_
    refine lv_aload_n hx hb dX7_has_5 rfl (lv_at hl 0 rfl) ?_
    refine g_get (ci := 6) (v := .int (nI (k.2 2))) h0 hF inX7 hB 3 rfl rfl 0 (by decide) wf_X7_27 rfl rfl dX7_has_6 ?_
    refine lv_icmp_ge (tgt := 16) hx hb dX7_has_9 (by decide) (fun c_9 => ?_) (fun c_9 => ?_)
    · have n_9 := Int32.not_lt.mpr c_9
      refine lv_iconst (v := 0) hx hb dX7_has_16 (by decide) ?_
      exact pm_zret hF dX7_has_17 rfl (by simp [bI, hasB, c_1, n_1, c_9, n_9])
    · have n_9 := Int32.not_le.mp c_9
      refine lv_iconst (v := 1) hx hb dX7_has_12 (by decide) ?_
      refine lv_goto (tgt := 17) hx hb dX7_has_13 (by decide) ?_
      exact pm_zret hF dX7_has_17 rfl (by simp [bI, hasB, c_1, n_1, c_9, n_9])

set_option maxHeartbeats 4000000 in
set_option maxRecDepth 100000 in
theorem m_X6_isSeen {X : Cx} {l : Launch} (h0 : Init X) {f : Nat → Nat} {k : Sk} (hO : Ok k)  (x : Int32) (i : Nat) (hxi : x = nI i) (hi : i < k.2 0) : PM X l yX6_isSeen cX6_isSeen 2 (some .boolean) 0 0 [.ref (f 1), .int x] (va_P X.D vwCl (skW X f k)) (.int (bI (isSeen k i))) := by
  subst hxi
  refine Met.mk (Bh := va_P X.D vwCl (skW X f k)) (by decide) (Nat.le_of_ble_eq_true rfl) ?_
  intro p e s m below meth c ls hF hB hl
  have hl : lv_has ls 2 [(0, .ref (f 1)), (1, .int (nI i))] := hl
  obtain ⟨hx, hb, hml, hr, hlk, hown, hG⟩ := id hF
  have hK := hG.K h0
  have hS : va_S noA s.heap s.heap [] := va_S.rf
  have hO1 := hO.1
  have hO2 := hO.2.1
  have hO3 := hO.2.2.1
  refine lv_aload_n hx hb dX6_isSeen_0 rfl (lv_at hl 0 rfl) ?_
  refine g_get (ci := 5) (v := .ref (f 4)) h0 hF inX6 hB 1 rfl rfl 1 (by decide) wf_X6_9 rfl rfl dX6_isSeen_1 ?_
  refine lv_iload_n hx hb dX6_isSeen_4 rfl (lv_at hl 1 rfl) ?_
  refine g_iald hx hb hK hB 4 0 rfl rfl i (rfl) (by omega) (by decide) dX6_isSeen_5 ?_
  refine lv_aload_n hx hb dX6_isSeen_6 rfl (lv_at hl 0 rfl) ?_
  refine g_get (ci := 5) (v := .ref (f 8)) h0 hF inX6 hB 1 rfl rfl 5 (by decide) wf_X6_24 rfl rfl dX6_isSeen_7 ?_
  refine lv_aload_n hx hb dX6_isSeen_10 rfl (lv_at hl 0 rfl) ?_
  refine g_get (ci := 5) (v := .ref (f 5)) h0 hF inX6 hB 1 rfl rfl 2 (by decide) wf_X6_15 rfl rfl dX6_isSeen_11 ?_
  refine lv_iload_n hx hb dX6_isSeen_14 rfl (lv_at hl 1 rfl) ?_
  refine g_iald hx hb hK hB 5 0 rfl rfl i (rfl) (by omega) (by decide) dX6_isSeen_15 ?_
  refine g_iald hx hb hK hB 8 0 rfl rfl (sN k i) ((hO.2.2.2.1 i hi).1) (hO.2.2.2.1 i hi).2 (by decide) dX6_isSeen_16 ?_
  refine lv_icmp_le (tgt := 24) hx hb dX6_isSeen_17 (by decide) (fun c_17 => ?_) (fun c_17 => ?_)
  · have n_17 := Int32.not_lt.mpr c_17
    refine lv_iconst (v := 0) hx hb dX6_isSeen_24 (by decide) ?_
    exact pm_zret hF dX6_isSeen_25 rfl (by simp [bI, isSeen, c_17, n_17])
  · have n_17 := Int32.not_le.mp c_17
    refine lv_iconst (v := 1) hx hb dX6_isSeen_20 (by decide) ?_
    refine lv_goto (tgt := 25) hx hb dX6_isSeen_21 (by decide) ?_
    exact pm_zret hF dX6_isSeen_25 rfl (by simp [bI, isSeen, c_17, n_17])

set_option maxHeartbeats 4000000 in
set_option maxRecDepth 100000 in
theorem m_X6_countSeen {X : Cx} {l : Launch} (h0 : Init X) {f : Nat → Nat} {k : Sk} (hO : Ok k)  (g : Int32) : PM X l yX6_countSeen cX6_countSeen 4 (some .int) 1 21 [.ref (f 1), .int g] (va_P X.D vwCl (skW X f k)) (.int (nI (cN (fun z => decide (k.1 1 z = g) && isSeen k z) (k.2 0)))) := by
  refine Met.mk (Bh := va_P X.D vwCl (skW X f k)) (by decide) (Nat.le_of_ble_eq_true rfl) ?_
  intro p e s m below meth c ls hF hB hl
  have hl : lv_has ls 4 [(0, .ref (f 1)), (1, .int g)] := hl
  obtain ⟨hx, hb, hml, hr, hlk, hown, hG⟩ := id hF
  have hK := hG.K h0
  have hS : va_S noA s.heap s.heap [] := va_S.rf
  have hO1 := hO.1
  have hO2 := hO.2.1
  have hO3 := hO.2.2.1
  refine lv_iconst (v := 0) hx hb dX6_countSeen_0 (by decide) ?_
  refine lv_istore_n (lv' := [(2, .int 0), (0, .ref (f 1)), (1, .int g)]) hx hb dX6_countSeen_1 rfl hl (by decide) rfl (fun ls hl => ?_)
  refine lv_iconst (v := 0) hx hb dX6_countSeen_2 (by decide) ?_
  refine lv_istore_n (lv' := [(3, .int 0), (2, .int 0), (0, .ref (f 1)), (1, .int g)]) hx hb dX6_countSeen_3 rfl hl (by decide) rfl (fun ls hl => ?_)
  have key_4 : ∀ (nf j : Nat), j + nf = k.2 0 → ∀ (ls : Array Slot), lv_has ls 4 [(0, .ref (f 1)), (1, .int g), (2, .int (nI (cN (fun z => decide (k.1 1 z = g) && isSeen k z) j))), (3, .int (nI j))] → W p l e ({ frames := 1, cells := 0, slots := 0, locals := 21 } : Room) s m ([.ref (f 1), .int g] : List Value).toArray below meth c s.heap [] 0 0 (MQ below (qP (.int (nI (cN (fun z => decide (k.1 1 z = g) && isSeen k z) (k.2 0))))) ([.ref (f 1), .int g] : List Value).toArray s 0 0 noA) (F0 m 4 ls []) := by
    intro nf
    induction nf with
    | zero =>
      intro j hj ls hl
      have hj_e : j = k.2 0 := by omega
      refine lv_iload_n hx hb dX6_countSeen_4 rfl (lv_at hl 3 rfl) ?_
      refine lv_aload_n hx hb dX6_countSeen_5 rfl (lv_at hl 0 rfl) ?_
      refine g_get (ci := 5) (v := .int (nI (k.2 0))) h0 hF inX6 hB 1 rfl rfl 0 (by decide) wf_X6_27 rfl rfl dX6_countSeen_6 ?_
      refine lv_icmp_ge (tgt := 39) hx hb dX6_countSeen_9 (by decide) (fun c_9 => ?_) (fun c_9 => absurd (nI_le (a := k.2 0) (b := j) (by omega) (by omega)) c_9)
      have n_9 := Int32.not_lt.mpr c_9
      refine lv_iload_n hx hb dX6_countSeen_39 rfl (lv_at hl 2 rfl) ?_
      exact pm_iret hF dX6_countSeen_40 (by rw [hj_e])
    | succ nf ih_4 =>
      intro j hj ls hl
      have hj_l : j < k.2 0 := by omega
      refine lv_iload_n hx hb dX6_countSeen_4 rfl (lv_at hl 3 rfl) ?_
      refine lv_aload_n hx hb dX6_countSeen_5 rfl (lv_at hl 0 rfl) ?_
      refine g_get (ci := 5) (v := .int (nI (k.2 0))) h0 hF inX6 hB 1 rfl rfl 0 (by decide) wf_X6_27 rfl rfl dX6_countSeen_6 ?_
      refine lv_icmp_ge (tgt := 39) hx hb dX6_countSeen_9 (by decide) (fun c_9 => absurd c_9 (nI_ge (a := j) (b := k.2 0) (by omega) (by omega))) (fun c_9 => ?_)
      have n_9 := Int32.not_le.mp c_9
      refine lv_aload_n hx hb dX6_countSeen_12 rfl (lv_at hl 0 rfl) ?_
      refine g_get (ci := 5) (v := .ref (f 5)) h0 hF inX6 hB 1 rfl rfl 2 (by decide) wf_X6_15 rfl rfl dX6_countSeen_13 ?_
      refine lv_iload_n hx hb dX6_countSeen_16 rfl (lv_at hl 3 rfl) ?_
      refine g_iald hx hb hK hB 5 0 rfl rfl j (rfl) (by omega) (by decide) dX6_countSeen_17 ?_
      refine lv_iload_n hx hb dX6_countSeen_18 rfl (lv_at hl 1 rfl) ?_
      refine lv_icmp_ne (tgt := 33) hx hb dX6_countSeen_19 (by decide) (fun c_19 => ?_) (fun c_19 => ?_)
      · refine lv_iinc (v := nI (j + 1)) (lv' := [(3, .int (nI (j + 1))), (0, .ref (f 1)), (1, .int g), (2, .int (nI (cN (fun z => decide (k.1 1 z = g) && isSeen k z) j)))]) hx hb dX6_countSeen_33 hl (k := 3) rfl (nI_1 j) (by decide) rfl (fun ls hl => ?_)
        refine lv_goto (tgt := 4) hx hb dX6_countSeen_36 (by decide) ?_
        refine ih_4 (j + 1) (by omega) ls (lv_eqv (lv_sub (l' := [(0, .ref (f 1)), (1, .int g), (2, .int (nI (cN (fun z => decide (k.1 1 z = g) && isSeen k z) j))), (3, .int (nI (j + 1)))]) hl [1, 2, 3, 0] rfl) ?_)
        rw [show (nI (cN (fun z => decide (k.1 1 z = g) && isSeen k z) j)) = (nI (cN (fun z => decide (k.1 1 z = g) && isSeen k z) (j + 1))) from (congrArg nI (cN_f (by simp [c_9, n_9, c_19])).symm)]
      · refine lv_aload_n hx hb dX6_countSeen_22 rfl (lv_at hl 0 rfl) ?_
        refine lv_iload_n hx hb dX6_countSeen_23 rfl (lv_at hl 3 rfl) ?_
        refine core_p (v := .int (bI (isSeen k j))) (grV (n := 1) (As := [.int (nI j)]) (rest := []) h0 hF (m_X6_isSeen h0 (f := f) (k := k) hO  (nI j) j rfl (by omega)) wm_X6_35 wo_X6_isSeen ws_X6__X6_isSeen wz_X6 wc_X6_isSeen ⟨by decide, by decide, by decide +kernel⟩ rfl ⟨Nat.le_of_ble_eq_true rfl, Nat.le_of_ble_eq_true rfl⟩ (ci := 5) ⟨_, hB 1 _ rfl⟩ rfl hB hS noA_old ⟨Nat.zero_le _, Nat.zero_le _⟩ hl.1 rfl (Nat.le_of_ble_eq_true rfl) dX6_countSeen_24) ?_
        refine lv_if_eq (tgt := 33) hx hb dX6_countSeen_27 (by decide) (fun c_27 => ?_) (fun c_27 => ?_)
        · have n_27 := bI_0.mp c_27
          refine lv_iinc (v := nI (j + 1)) (lv' := [(3, .int (nI (j + 1))), (0, .ref (f 1)), (1, .int g), (2, .int (nI (cN (fun z => decide (k.1 1 z = g) && isSeen k z) j)))]) hx hb dX6_countSeen_33 hl (k := 3) rfl (nI_1 j) (by decide) rfl (fun ls hl => ?_)
          refine lv_goto (tgt := 4) hx hb dX6_countSeen_36 (by decide) ?_
          refine ih_4 (j + 1) (by omega) ls (lv_eqv (lv_sub (l' := [(0, .ref (f 1)), (1, .int g), (2, .int (nI (cN (fun z => decide (k.1 1 z = g) && isSeen k z) j))), (3, .int (nI (j + 1)))]) hl [1, 2, 3, 0] rfl) ?_)
          rw [show (nI (cN (fun z => decide (k.1 1 z = g) && isSeen k z) j)) = (nI (cN (fun z => decide (k.1 1 z = g) && isSeen k z) (j + 1))) from (congrArg nI (cN_f (by simp [c_9, n_9, c_19, n_27])).symm)]
        · have n_27 := bI_n0.mp c_27
          refine lv_iinc (v := nI ((cN (fun z => decide (k.1 1 z = g) && isSeen k z) j) + 1)) (lv' := [(2, .int (nI ((cN (fun z => decide (k.1 1 z = g) && isSeen k z) j) + 1))), (0, .ref (f 1)), (1, .int g), (3, .int (nI j))]) hx hb dX6_countSeen_30 hl (k := 2) rfl (nI_1 (cN (fun z => decide (k.1 1 z = g) && isSeen k z) j)) (by decide) rfl (fun ls hl => ?_)
          refine lv_iinc (v := nI (j + 1)) (lv' := [(3, .int (nI (j + 1))), (2, .int (nI ((cN (fun z => decide (k.1 1 z = g) && isSeen k z) j) + 1))), (0, .ref (f 1)), (1, .int g)]) hx hb dX6_countSeen_33 hl (k := 3) rfl (nI_1 j) (by decide) rfl (fun ls hl => ?_)
          refine lv_goto (tgt := 4) hx hb dX6_countSeen_36 (by decide) ?_
          refine ih_4 (j + 1) (by omega) ls (lv_eqv (lv_sub (l' := [(0, .ref (f 1)), (1, .int g), (2, .int (nI ((cN (fun z => decide (k.1 1 z = g) && isSeen k z) j) + 1))), (3, .int (nI (j + 1)))]) hl [2, 3, 1, 0] rfl) ?_)
          rw [show (nI ((cN (fun z => decide (k.1 1 z = g) && isSeen k z) j) + 1)) = (nI (cN (fun z => decide (k.1 1 z = g) && isSeen k z) (j + 1))) from (congrArg nI (cN_t (by simp [c_9, n_9, c_19, n_27])).symm)]
  exact key_4 (k.2 0) 0 (by omega) ls (lv_sub hl [2, 3, 1, 0] rfl)

set_option maxHeartbeats 4000000 in
set_option maxRecDepth 100000 in
theorem m_X9_countAlike {X : Cx} {l : Launch} (h0 : Init X) {a N : Nat} {F : Nat → Int32} (n : Nat) (hn : n ≤ N) (hN : N < 1000) (g : Int32) : PM X l yX9_countAlike cX9_countAlike 5 (some .int) 0 0 [.ref a, .int (nI n), .int g] (va_P X.D vwCl [(a, .inl (X.cI, N, .inl F))]) (.int (nI (cN (fun z => decide (F z = g)) n))) := by
  refine Met.mk (Bh := va_P X.D vwCl [(a, .inl (X.cI, N, .inl F))]) (by decide) (Nat.le_of_ble_eq_true rfl) ?_
  intro p e s m below meth c ls hF hB hl
  have hl : lv_has ls 5 [(0, .ref a), (1, .int (nI n)), (2, .int g)] := hl
  obtain ⟨hx, hb, hml, hr, hlk, hown, hG⟩ := id hF
  have hK := hG.K h0
  have hS : va_S noA s.heap s.heap [] := va_S.rf
  refine lv_iconst (v := 0) hx hb dX9_countAlike_0 (by decide) ?_
  refine lv_istore_n (lv' := [(3, .int 0), (0, .ref a), (1, .int (nI n)), (2, .int g)]) hx hb dX9_countAlike_1 rfl hl (by decide) rfl (fun ls hl => ?_)
  refine lv_iconst (v := 0) hx hb dX9_countAlike_2 (by decide) ?_
  refine lv_istore (lv' := [(4, .int 0), (3, .int 0), (0, .ref a), (1, .int (nI n)), (2, .int g)]) hx hb dX9_countAlike_3 hl (by decide) rfl (fun ls hl => ?_)
  have key_5 : ∀ (nf j : Nat), j + nf = n → ∀ (ls : Array Slot), lv_has ls 5 [(0, .ref a), (1, .int (nI n)), (2, .int g), (3, .int (nI (cN (fun z => decide (F z = g)) j))), (4, .int (nI j))] → W p l e ({ frames := 0, cells := 0, slots := 0, locals := 0 } : Room) s m ([.ref a, .int (nI n), .int g] : List Value).toArray below meth c s.heap [] 0 0 (MQ below (qP (.int (nI (cN (fun z => decide (F z = g)) n)))) ([.ref a, .int (nI n), .int g] : List Value).toArray s 0 0 noA) (F0 m 5 ls []) := by
    intro nf
    induction nf with
    | zero =>
      intro j hj ls hl
      have hj_e : j = n := by omega
      refine lv_iload hx hb dX9_countAlike_5 (lv_at hl 4 rfl) ?_
      refine lv_iload_n hx hb dX9_countAlike_7 rfl (lv_at hl 1 rfl) ?_
      refine lv_icmp_ge (tgt := 35) hx hb dX9_countAlike_8 (by decide) (fun c_8 => ?_) (fun c_8 => absurd (nI_le (a := n) (b := j) (by omega) (by omega)) c_8)
      have n_8 := Int32.not_lt.mpr c_8
      refine lv_iload_n hx hb dX9_countAlike_35 rfl (lv_at hl 3 rfl) ?_
      exact pm_iret hF dX9_countAlike_36 (by rw [hj_e])
    | succ nf ih_5 =>
      intro j hj ls hl
      have hj_l : j < n := by omega
      refine lv_iload hx hb dX9_countAlike_5 (lv_at hl 4 rfl) ?_
      refine lv_iload_n hx hb dX9_countAlike_7 rfl (lv_at hl 1 rfl) ?_
      refine lv_icmp_ge (tgt := 35) hx hb dX9_countAlike_8 (by decide) (fun c_8 => absurd c_8 (nI_ge (a := j) (b := n) (by omega) (by omega))) (fun c_8 => ?_)
      have n_8 := Int32.not_le.mp c_8
      refine lv_iload hx hb dX9_countAlike_11 (lv_at hl 4 rfl) ?_
      refine lv_aload_n hx hb dX9_countAlike_13 rfl (lv_at hl 0 rfl) ?_
      refine va_alen hx hb hK hB 0 0 rfl rfl (v := nI N) rfl dX9_countAlike_14 ?_
      refine lv_icmp_ge (tgt := 35) hx hb dX9_countAlike_15 (by decide) (fun c_15 => absurd c_15 (nI_ge (a := j) (b := N) (by omega) (by omega))) (fun c_15 => ?_)
      have n_15 := Int32.not_le.mp c_15
      refine lv_aload_n hx hb dX9_countAlike_18 rfl (lv_at hl 0 rfl) ?_
      refine lv_iload hx hb dX9_countAlike_19 (lv_at hl 4 rfl) ?_
      refine g_iald hx hb hK hB 0 0 rfl rfl j (rfl) (by omega) (by omega) dX9_countAlike_21 ?_
      refine lv_iload_n hx hb dX9_countAlike_22 rfl (lv_at hl 2 rfl) ?_
      refine lv_icmp_ne (tgt := 29) hx hb dX9_countAlike_23 (by decide) (fun c_23 => ?_) (fun c_23 => ?_)
      · refine lv_iinc (v := nI (j + 1)) (lv' := [(4, .int (nI (j + 1))), (0, .ref a), (1, .int (nI n)), (2, .int g), (3, .int (nI (cN (fun z => decide (F z = g)) j)))]) hx hb dX9_countAlike_29 hl (k := 4) rfl (nI_1 j) (by decide) rfl (fun ls hl => ?_)
        refine lv_goto (tgt := 5) hx hb dX9_countAlike_32 (by decide) ?_
        refine ih_5 (j + 1) (by omega) ls (lv_eqv (lv_sub (l' := [(0, .ref a), (1, .int (nI n)), (2, .int g), (3, .int (nI (cN (fun z => decide (F z = g)) j))), (4, .int (nI (j + 1)))]) hl [1, 2, 3, 4, 0] rfl) ?_)
        rw [show (nI (cN (fun z => decide (F z = g)) j)) = (nI (cN (fun z => decide (F z = g)) (j + 1))) from (congrArg nI (cN_f (by simp [c_8, n_8, c_15, n_15, c_23])).symm)]
      · refine lv_iinc (v := nI ((cN (fun z => decide (F z = g)) j) + 1)) (lv' := [(3, .int (nI ((cN (fun z => decide (F z = g)) j) + 1))), (0, .ref a), (1, .int (nI n)), (2, .int g), (4, .int (nI j))]) hx hb dX9_countAlike_26 hl (k := 3) rfl (nI_1 (cN (fun z => decide (F z = g)) j)) (by decide) rfl (fun ls hl => ?_)
        refine lv_iinc (v := nI (j + 1)) (lv' := [(4, .int (nI (j + 1))), (3, .int (nI ((cN (fun z => decide (F z = g)) j) + 1))), (0, .ref a), (1, .int (nI n)), (2, .int g)]) hx hb dX9_countAlike_29 hl (k := 4) rfl (nI_1 j) (by decide) rfl (fun ls hl => ?_)
        refine lv_goto (tgt := 5) hx hb dX9_countAlike_32 (by decide) ?_
        refine ih_5 (j + 1) (by omega) ls (lv_eqv (lv_sub (l' := [(0, .ref a), (1, .int (nI n)), (2, .int g), (3, .int (nI ((cN (fun z => decide (F z = g)) j) + 1))), (4, .int (nI (j + 1)))]) hl [2, 3, 4, 1, 0] rfl) ?_)
        rw [show (nI ((cN (fun z => decide (F z = g)) j) + 1)) = (nI (cN (fun z => decide (F z = g)) (j + 1))) from (congrArg nI (cN_t (by simp [c_8, n_8, c_15, n_15, c_23])).symm)]
  exact key_5 (n) 0 (by omega) ls (lv_sub hl [2, 3, 4, 1, 0] rfl)

set_option maxHeartbeats 4000000 in
set_option maxRecDepth 100000 in
theorem m_X9_sum {X : Cx} {l : Launch} (h0 : Init X) {a N : Nat} {F : Nat → Int32} (n : Nat) (hn : n ≤ N) (hN : N < 1000)  : PM X l yX9_sum cX9_sum 4 (some .int) 0 0 [.ref a, .int (nI n)] (va_P X.D vwCl [(a, .inl (X.cI, N, .inl F))]) (.int (sI F n)) := by
  refine Met.mk (Bh := va_P X.D vwCl [(a, .inl (X.cI, N, .inl F))]) (by decide) (Nat.le_of_ble_eq_true rfl) ?_
  intro p e s m below meth c ls hF hB hl
  have hl : lv_has ls 4 [(0, .ref a), (1, .int (nI n))] := hl
  obtain ⟨hx, hb, hml, hr, hlk, hown, hG⟩ := id hF
  have hK := hG.K h0
  have hS : va_S noA s.heap s.heap [] := va_S.rf
  refine lv_iconst (v := 0) hx hb dX9_sum_0 (by decide) ?_
  refine lv_istore_n (lv' := [(2, .int 0), (0, .ref a), (1, .int (nI n))]) hx hb dX9_sum_1 rfl hl (by decide) rfl (fun ls hl => ?_)
  refine lv_iconst (v := 0) hx hb dX9_sum_2 (by decide) ?_
  refine lv_istore_n (lv' := [(3, .int 0), (2, .int 0), (0, .ref a), (1, .int (nI n))]) hx hb dX9_sum_3 rfl hl (by decide) rfl (fun ls hl => ?_)
  have key_4 : ∀ (nf j : Nat), j + nf = n → ∀ (ls : Array Slot), lv_has ls 4 [(0, .ref a), (1, .int (nI n)), (2, .int (sI F j)), (3, .int (nI j))] → W p l e ({ frames := 0, cells := 0, slots := 0, locals := 0 } : Room) s m ([.ref a, .int (nI n)] : List Value).toArray below meth c s.heap [] 0 0 (MQ below (qP (.int (sI F n))) ([.ref a, .int (nI n)] : List Value).toArray s 0 0 noA) (F0 m 4 ls []) := by
    intro nf
    induction nf with
    | zero =>
      intro j hj ls hl
      have hj_e : j = n := by omega
      refine lv_iload_n hx hb dX9_sum_4 rfl (lv_at hl 3 rfl) ?_
      refine lv_iload_n hx hb dX9_sum_5 rfl (lv_at hl 1 rfl) ?_
      refine lv_icmp_ge (tgt := 27) hx hb dX9_sum_6 (by decide) (fun c_6 => ?_) (fun c_6 => absurd (nI_le (a := n) (b := j) (by omega) (by omega)) c_6)
      have n_6 := Int32.not_lt.mpr c_6
      refine lv_iload_n hx hb dX9_sum_27 rfl (lv_at hl 2 rfl) ?_
      exact pm_iret hF dX9_sum_28 (by rw [hj_e])
    | succ nf ih_4 =>
      intro j hj ls hl
      have hj_l : j < n := by omega
      refine lv_iload_n hx hb dX9_sum_4 rfl (lv_at hl 3 rfl) ?_
      refine lv_iload_n hx hb dX9_sum_5 rfl (lv_at hl 1 rfl) ?_
      refine lv_icmp_ge (tgt := 27) hx hb dX9_sum_6 (by decide) (fun c_6 => absurd c_6 (nI_ge (a := j) (b := n) (by omega) (by omega))) (fun c_6 => ?_)
      have n_6 := Int32.not_le.mp c_6
      refine lv_iload_n hx hb dX9_sum_9 rfl (lv_at hl 3 rfl) ?_
      refine lv_aload_n hx hb dX9_sum_10 rfl (lv_at hl 0 rfl) ?_
      refine va_alen hx hb hK hB 0 0 rfl rfl (v := nI N) rfl dX9_sum_11 ?_
      refine lv_icmp_ge (tgt := 27) hx hb dX9_sum_12 (by decide) (fun c_12 => absurd c_12 (nI_ge (a := j) (b := N) (by omega) (by omega))) (fun c_12 => ?_)
      have n_12 := Int32.not_le.mp c_12
      refine lv_iload_n hx hb dX9_sum_15 rfl (lv_at hl 2 rfl) ?_
      refine lv_aload_n hx hb dX9_sum_16 rfl (lv_at hl 0 rfl) ?_
      refine lv_iload_n hx hb dX9_sum_17 rfl (lv_at hl 3 rfl) ?_
      refine g_iald hx hb hK hB 0 0 rfl rfl j (rfl) (by omega) (by omega) dX9_sum_18 ?_
      refine lv_iadd hx hb dX9_sum_19 ?_
      refine lv_istore_n (lv' := [(2, .int ((sI F j) + (F j))), (0, .ref a), (1, .int (nI n)), (3, .int (nI j))]) hx hb dX9_sum_20 rfl hl (by decide) rfl (fun ls hl => ?_)
      refine lv_iinc (v := nI (j + 1)) (lv' := [(3, .int (nI (j + 1))), (2, .int ((sI F j) + (F j))), (0, .ref a), (1, .int (nI n))]) hx hb dX9_sum_21 hl (k := 3) rfl (nI_1 j) (by decide) rfl (fun ls hl => ?_)
      refine lv_goto (tgt := 4) hx hb dX9_sum_24 (by decide) ?_
      refine ih_4 (j + 1) (by omega) ls (lv_eqv (lv_sub (l' := [(0, .ref a), (1, .int (nI n)), (2, .int ((sI F j) + (F j))), (3, .int (nI (j + 1)))]) hl [2, 3, 1, 0] rfl) ?_)
      rw [show ((sI F j) + (F j)) = (sI F (j + 1)) from (rfl)]
  exact key_4 (n) 0 (by omega) ls (lv_sub hl [2, 3, 1, 0] rfl)

set_option maxHeartbeats 4000000 in
set_option maxRecDepth 100000 in
theorem m_X9_isWithin {X : Cx} {l : Launch} (h0 : Init X) (x a b : Int32) : PM X l yX9_isWithin cX9_isWithin 3 (some .boolean) 0 0 [.int x, .int a, .int b] noW (.int (bI (winB x a b))) := by
  refine Met.mk (Bh := noW) (by decide) (Nat.le_of_ble_eq_true rfl) ?_
  intro p e s m below meth c ls hF hB hl
  have hl : lv_has ls 3 [(0, .int x), (1, .int a), (2, .int b)] := hl
  obtain ⟨hx, hb, hml, hr, hlk, hown, hG⟩ := id hF
  have hK := hG.K h0
  have hS : va_S noA s.heap s.heap [] := va_S.rf
  refine lv_iload_n hx hb dX9_isWithin_0 rfl (lv_at hl 0 rfl) ?_
  refine lv_iload_n hx hb dX9_isWithin_1 rfl (lv_at hl 1 rfl) ?_
  refine lv_icmp_lt (tgt := 14) hx hb dX9_isWithin_2 (by decide) (fun c_2 => ?_) (fun c_2 => ?_)
  · have n_2 := Int32.not_le.mpr c_2
    refine lv_iconst (v := 0) hx hb dX9_isWithin_14 (by decide) ?_
    exact pm_zret hF dX9_isWithin_15 rfl (by simp [bI, winB, c_2, n_2])
  · have n_2 := Int32.not_lt.mp c_2
    refine lv_iload_n hx hb dX9_isWithin_5 rfl (lv_at hl 0 rfl) ?_
    refine lv_iload_n hx hb dX9_isWithin_6 rfl (lv_at hl 2 rfl) ?_
    refine lv_icmp_gt (tgt := 14) hx hb dX9_isWithin_7 (by decide) (fun c_7 => ?_) (fun c_7 => ?_)
    · have n_7 := Int32.not_le.mpr c_7
      refine lv_iconst (v := 0) hx hb dX9_isWithin_14 (by decide) ?_
      exact pm_zret hF dX9_isWithin_15 rfl (by simp [bI, winB, c_2, n_2, c_7, n_7])
    · have n_7 := Int32.not_lt.mp c_7
      refine lv_iconst (v := 1) hx hb dX9_isWithin_10 (by decide) ?_
      refine lv_goto (tgt := 15) hx hb dX9_isWithin_11 (by decide) ?_
      exact pm_zret hF dX9_isWithin_15 rfl (by simp [bI, winB, c_2, n_2, c_7, n_7])

set_option maxHeartbeats 4000000 in
set_option maxRecDepth 100000 in
theorem m_X9_isSector {X : Cx} {l : Launch} (h0 : Init X) (x : Int32) : PM X l yX9_isSector cX9_isSector 1 (some .boolean) 1 22 [.int x] noW (.int (bI (winB x 0 3))) := by
  refine Met.mk (Bh := noW) (by decide) (Nat.le_of_ble_eq_true rfl) ?_
  intro p e s m below meth c ls hF hB hl
  have hl : lv_has ls 1 [(0, .int x)] := hl
  obtain ⟨hx, hb, hml, hr, hlk, hown, hG⟩ := id hF
  have hK := hG.K h0
  have hS : va_S noA s.heap s.heap [] := va_S.rf
  refine lv_iload_n hx hb dX9_isSector_0 rfl (lv_at hl 0 rfl) ?_
  refine lv_iconst (v := 0) hx hb dX9_isSector_1 (by decide) ?_
  refine lv_iconst (v := 3) hx hb dX9_isSector_2 (by decide) ?_
  refine core_p (v := .int (bI (winB x 0 3))) (grS (n := 3) (As := [.int x, .int 0, .int 3]) (rest := []) h0 hF (m_X9_isWithin h0 x 0 3) wm_X9_69 wt_X9_isWithin wz_X9 wc_X9_isWithin ⟨by decide, by decide, by decide +kernel⟩ rfl ⟨Nat.le_of_ble_eq_true rfl, Nat.le_of_ble_eq_true rfl⟩ trivial hS noA_old ⟨Nat.zero_le _, Nat.zero_le _⟩ hl.1 rfl (Nat.le_of_ble_eq_true rfl) dX9_isSector_3) ?_
  exact pm_zret hF dX9_isSector_6 (bI_nar _) (rfl)

set_option maxHeartbeats 4000000 in
set_option maxRecDepth 100000 in
theorem m_X6_countOfBrightness {X : Cx} {l : Launch} (h0 : Init X) {f : Nat → Nat} {k : Sk} (hO : Ok k)  (g b : Int32) : PM X l yX6_countOfBrightness cX6_countOfBrightness 5 (some .int) 0 0 [.ref (f 1), .int g, .int b] (va_P X.D vwCl (skW X f k)) (.int (nI (cBr k g b))) := by
  refine Met.mk (Bh := va_P X.D vwCl (skW X f k)) (by decide) (Nat.le_of_ble_eq_true rfl) ?_
  intro p e s m below meth c ls hF hB hl
  have hl : lv_has ls 5 [(0, .ref (f 1)), (1, .int g), (2, .int b)] := hl
  obtain ⟨hx, hb, hml, hr, hlk, hown, hG⟩ := id hF
  have hK := hG.K h0
  have hS : va_S noA s.heap s.heap [] := va_S.rf
  have hO1 := hO.1
  have hO2 := hO.2.1
  have hO3 := hO.2.2.1
  refine lv_iconst (v := 0) hx hb dX6_countOfBrightness_0 (by decide) ?_
  refine lv_istore_n (lv' := [(3, .int 0), (0, .ref (f 1)), (1, .int g), (2, .int b)]) hx hb dX6_countOfBrightness_1 rfl hl (by decide) rfl (fun ls hl => ?_)
  refine lv_iconst (v := 0) hx hb dX6_countOfBrightness_2 (by decide) ?_
  refine lv_istore (lv' := [(4, .int 0), (3, .int 0), (0, .ref (f 1)), (1, .int g), (2, .int b)]) hx hb dX6_countOfBrightness_3 hl (by decide) rfl (fun ls hl => ?_)
  have key_5 : ∀ (nf j : Nat), j + nf = k.2 0 → ∀ (ls : Array Slot), lv_has ls 5 [(0, .ref (f 1)), (1, .int g), (2, .int b), (3, .int (nI (cN (fun z => decide (k.1 1 z = g) && decide (k.1 0 z = b)) j))), (4, .int (nI j))] → W p l e ({ frames := 0, cells := 0, slots := 0, locals := 0 } : Room) s m ([.ref (f 1), .int g, .int b] : List Value).toArray below meth c s.heap [] 0 0 (MQ below (qP (.int (nI (cBr k g b)))) ([.ref (f 1), .int g, .int b] : List Value).toArray s 0 0 noA) (F0 m 5 ls []) := by
    intro nf
    induction nf with
    | zero =>
      intro j hj ls hl
      have hj_e : j = k.2 0 := by omega
      refine lv_iload hx hb dX6_countOfBrightness_5 (lv_at hl 4 rfl) ?_
      refine lv_aload_n hx hb dX6_countOfBrightness_7 rfl (lv_at hl 0 rfl) ?_
      refine g_get (ci := 5) (v := .int (nI (k.2 0))) h0 hF inX6 hB 1 rfl rfl 0 (by decide) wf_X6_27 rfl rfl dX6_countOfBrightness_8 ?_
      refine lv_icmp_ge (tgt := 45) hx hb dX6_countOfBrightness_11 (by decide) (fun c_11 => ?_) (fun c_11 => absurd (nI_le (a := k.2 0) (b := j) (by omega) (by omega)) c_11)
      have n_11 := Int32.not_lt.mpr c_11
      refine lv_iload_n hx hb dX6_countOfBrightness_45 rfl (lv_at hl 3 rfl) ?_
      exact pm_iret hF dX6_countOfBrightness_46 (by rw [hj_e]; rfl)
    | succ nf ih_5 =>
      intro j hj ls hl
      have hj_l : j < k.2 0 := by omega
      refine lv_iload hx hb dX6_countOfBrightness_5 (lv_at hl 4 rfl) ?_
      refine lv_aload_n hx hb dX6_countOfBrightness_7 rfl (lv_at hl 0 rfl) ?_
      refine g_get (ci := 5) (v := .int (nI (k.2 0))) h0 hF inX6 hB 1 rfl rfl 0 (by decide) wf_X6_27 rfl rfl dX6_countOfBrightness_8 ?_
      refine lv_icmp_ge (tgt := 45) hx hb dX6_countOfBrightness_11 (by decide) (fun c_11 => absurd c_11 (nI_ge (a := j) (b := k.2 0) (by omega) (by omega))) (fun c_11 => ?_)
      have n_11 := Int32.not_le.mp c_11
      refine lv_aload_n hx hb dX6_countOfBrightness_14 rfl (lv_at hl 0 rfl) ?_
      refine g_get (ci := 5) (v := .ref (f 5)) h0 hF inX6 hB 1 rfl rfl 2 (by decide) wf_X6_15 rfl rfl dX6_countOfBrightness_15 ?_
      refine lv_iload hx hb dX6_countOfBrightness_18 (lv_at hl 4 rfl) ?_
      refine g_iald hx hb hK hB 5 0 rfl rfl j (rfl) (by omega) (by decide) dX6_countOfBrightness_20 ?_
      refine lv_iload_n hx hb dX6_countOfBrightness_21 rfl (lv_at hl 1 rfl) ?_
      refine lv_icmp_ne (tgt := 39) hx hb dX6_countOfBrightness_22 (by decide) (fun c_22 => ?_) (fun c_22 => ?_)
      · refine lv_iinc (v := nI (j + 1)) (lv' := [(4, .int (nI (j + 1))), (0, .ref (f 1)), (1, .int g), (2, .int b), (3, .int (nI (cN (fun z => decide (k.1 1 z = g) && decide (k.1 0 z = b)) j)))]) hx hb dX6_countOfBrightness_39 hl (k := 4) rfl (nI_1 j) (by decide) rfl (fun ls hl => ?_)
        refine lv_goto (tgt := 5) hx hb dX6_countOfBrightness_42 (by decide) ?_
        refine ih_5 (j + 1) (by omega) ls (lv_eqv (lv_sub (l' := [(0, .ref (f 1)), (1, .int g), (2, .int b), (3, .int (nI (cN (fun z => decide (k.1 1 z = g) && decide (k.1 0 z = b)) j))), (4, .int (nI (j + 1)))]) hl [1, 2, 3, 4, 0] rfl) ?_)
        rw [show (nI (cN (fun z => decide (k.1 1 z = g) && decide (k.1 0 z = b)) j)) = (nI (cN (fun z => decide (k.1 1 z = g) && decide (k.1 0 z = b)) (j + 1))) from (congrArg nI (cN_f (by simp [c_11, n_11, c_22])).symm)]
      · refine lv_aload_n hx hb dX6_countOfBrightness_25 rfl (lv_at hl 0 rfl) ?_
        refine g_get (ci := 5) (v := .ref (f 4)) h0 hF inX6 hB 1 rfl rfl 1 (by decide) wf_X6_9 rfl rfl dX6_countOfBrightness_26 ?_
        refine lv_iload hx hb dX6_countOfBrightness_29 (lv_at hl 4 rfl) ?_
        refine g_iald hx hb hK hB 4 0 rfl rfl j (rfl) (by omega) (by decide) dX6_countOfBrightness_31 ?_
        refine lv_iload_n hx hb dX6_countOfBrightness_32 rfl (lv_at hl 2 rfl) ?_
        refine lv_icmp_ne (tgt := 39) hx hb dX6_countOfBrightness_33 (by decide) (fun c_33 => ?_) (fun c_33 => ?_)
        · refine lv_iinc (v := nI (j + 1)) (lv' := [(4, .int (nI (j + 1))), (0, .ref (f 1)), (1, .int g), (2, .int b), (3, .int (nI (cN (fun z => decide (k.1 1 z = g) && decide (k.1 0 z = b)) j)))]) hx hb dX6_countOfBrightness_39 hl (k := 4) rfl (nI_1 j) (by decide) rfl (fun ls hl => ?_)
          refine lv_goto (tgt := 5) hx hb dX6_countOfBrightness_42 (by decide) ?_
          refine ih_5 (j + 1) (by omega) ls (lv_eqv (lv_sub (l' := [(0, .ref (f 1)), (1, .int g), (2, .int b), (3, .int (nI (cN (fun z => decide (k.1 1 z = g) && decide (k.1 0 z = b)) j))), (4, .int (nI (j + 1)))]) hl [1, 2, 3, 4, 0] rfl) ?_)
          rw [show (nI (cN (fun z => decide (k.1 1 z = g) && decide (k.1 0 z = b)) j)) = (nI (cN (fun z => decide (k.1 1 z = g) && decide (k.1 0 z = b)) (j + 1))) from (congrArg nI (cN_f (by simp [c_11, n_11, c_22, c_33])).symm)]
        · refine lv_iinc (v := nI ((cN (fun z => decide (k.1 1 z = g) && decide (k.1 0 z = b)) j) + 1)) (lv' := [(3, .int (nI ((cN (fun z => decide (k.1 1 z = g) && decide (k.1 0 z = b)) j) + 1))), (0, .ref (f 1)), (1, .int g), (2, .int b), (4, .int (nI j))]) hx hb dX6_countOfBrightness_36 hl (k := 3) rfl (nI_1 (cN (fun z => decide (k.1 1 z = g) && decide (k.1 0 z = b)) j)) (by decide) rfl (fun ls hl => ?_)
          refine lv_iinc (v := nI (j + 1)) (lv' := [(4, .int (nI (j + 1))), (3, .int (nI ((cN (fun z => decide (k.1 1 z = g) && decide (k.1 0 z = b)) j) + 1))), (0, .ref (f 1)), (1, .int g), (2, .int b)]) hx hb dX6_countOfBrightness_39 hl (k := 4) rfl (nI_1 j) (by decide) rfl (fun ls hl => ?_)
          refine lv_goto (tgt := 5) hx hb dX6_countOfBrightness_42 (by decide) ?_
          refine ih_5 (j + 1) (by omega) ls (lv_eqv (lv_sub (l' := [(0, .ref (f 1)), (1, .int g), (2, .int b), (3, .int (nI ((cN (fun z => decide (k.1 1 z = g) && decide (k.1 0 z = b)) j) + 1))), (4, .int (nI (j + 1)))]) hl [2, 3, 4, 1, 0] rfl) ?_)
          rw [show (nI ((cN (fun z => decide (k.1 1 z = g) && decide (k.1 0 z = b)) j) + 1)) = (nI (cN (fun z => decide (k.1 1 z = g) && decide (k.1 0 z = b)) (j + 1))) from (congrArg nI (cN_t (by simp [c_11, n_11, c_22, c_33])).symm)]
  exact key_5 (k.2 0) 0 (by omega) ls (lv_sub hl [2, 3, 4, 1, 0] rfl)

set_option maxHeartbeats 4000000 in
set_option maxRecDepth 100000 in
theorem m_X6_countSeenByBrightness {X : Cx} {l : Launch} (h0 : Init X) {f : Nat → Nat} {k : Sk} (hO : Ok k) (hC : Okc k) (x : Int32) (g : Nat) (hxg : x = nI g) (hg : g < 4) : PM X l yX6_countSeenByBrightness cX6_countSeenByBrightness 4 (some .int) 1 24 [.ref (f 1), .int x] (va_P X.D vwCl (skW X f k)) (.int (nI (gS (fun b => cBr k (nI g) (nI b)) (cl k g + 1) (9 - cl k g)))) := by
  subst hxg
  refine Met.mk (Bh := va_P X.D vwCl (skW X f k)) (by decide) (Nat.le_of_ble_eq_true rfl) ?_
  intro p e s m below meth c ls hF hB hl
  have hl : lv_has ls 4 [(0, .ref (f 1)), (1, .int (nI g))] := hl
  obtain ⟨hx, hb, hml, hr, hlk, hown, hG⟩ := id hF
  have hK := hG.K h0
  have hS : va_S noA s.heap s.heap [] := va_S.rf
  have hO1 := hO.1
  have hO2 := hO.2.1
  have hO3 := hO.2.2.1
  have hC2 := (hC g hg).2
  refine lv_iconst (v := 0) hx hb dX6_countSeenByBrightness_0 (by decide) ?_
  refine lv_istore_n (lv' := [(2, .int 0), (0, .ref (f 1)), (1, .int (nI g))]) hx hb dX6_countSeenByBrightness_1 rfl hl (by decide) rfl (fun ls hl => ?_)
  refine lv_aload_n hx hb dX6_countSeenByBrightness_2 rfl (lv_at hl 1 rfl) ?_
  refine g_get (ci := 5) (v := .ref (f 8)) h0 hF inX6 hB 1 rfl rfl 5 (by decide) wf_X6_24 rfl rfl dX6_countSeenByBrightness_3 ?_
  refine lv_iload_n hx hb dX6_countSeenByBrightness_6 rfl (lv_at hl 2 rfl) ?_
  refine g_iald hx hb hK hB 8 0 rfl rfl g (rfl) (by omega) (by decide) dX6_countSeenByBrightness_7 ?_
  refine lv_iconst (v := 1) hx hb dX6_countSeenByBrightness_8 (by decide) ?_
  refine lv_iadd hx hb dX6_countSeenByBrightness_9 ?_
  refine lv_topE (y := nI (cl k g + 1)) (by rw [(hC g hg).1]; exact nI_1 _) ?_
  refine lv_istore_n (lv' := [(3, .int (nI (cl k g + 1))), (2, .int 0), (0, .ref (f 1)), (1, .int (nI g))]) hx hb dX6_countSeenByBrightness_10 rfl hl (by decide) rfl (fun ls hl => ?_)
  have key_11 : ∀ (nf j : Nat), j + nf = 9 - cl k g → ∀ (ls : Array Slot), lv_has ls 4 [(0, .ref (f 1)), (1, .int (nI g)), (2, .int (nI (gS (fun b => cBr k (nI g) (nI b)) (cl k g + 1) j))), (3, .int (nI (cl k g + 1 + j)))] → W p l e ({ frames := 1, cells := 0, slots := 0, locals := 24 } : Room) s m ([.ref (f 1), .int (nI g)] : List Value).toArray below meth c s.heap [] 0 0 (MQ below (qP (.int (nI (gS (fun b => cBr k (nI g) (nI b)) (cl k g + 1) (9 - cl k g))))) ([.ref (f 1), .int (nI g)] : List Value).toArray s 0 0 noA) (F0 m 11 ls []) := by
    intro nf
    induction nf with
    | zero =>
      intro j hj ls hl
      have hj_e : j = 9 - cl k g := by omega
      refine lv_iload_n hx hb dX6_countSeenByBrightness_11 rfl (lv_at hl 3 rfl) ?_
      refine lv_bipush (v := 9) hx hb dX6_countSeenByBrightness_12 (by decide) ?_
      refine lv_icmp_gt (tgt := 32) hx hb dX6_countSeenByBrightness_14 (by decide) (fun c_14 => ?_) (fun c_14 => absurd (nI_lt (a := 9) (b := cl k g + 1 + j) (by omega) (by omega)) c_14)
      have n_14 := Int32.not_le.mpr c_14
      refine lv_iload_n hx hb dX6_countSeenByBrightness_32 rfl (lv_at hl 2 rfl) ?_
      exact pm_iret hF dX6_countSeenByBrightness_33 (by rw [hj_e])
    | succ nf ih_11 =>
      intro j hj ls hl
      have hj_l : j < 9 - cl k g := by omega
      refine lv_iload_n hx hb dX6_countSeenByBrightness_11 rfl (lv_at hl 3 rfl) ?_
      refine lv_bipush (v := 9) hx hb dX6_countSeenByBrightness_12 (by decide) ?_
      refine lv_icmp_gt (tgt := 32) hx hb dX6_countSeenByBrightness_14 (by decide) (fun c_14 => absurd c_14 (nI_nlt (a := 9) (b := cl k g + 1 + j) (by omega) (by omega))) (fun c_14 => ?_)
      have n_14 := Int32.not_lt.mp c_14
      refine lv_iload_n hx hb dX6_countSeenByBrightness_17 rfl (lv_at hl 2 rfl) ?_
      refine lv_aload_n hx hb dX6_countSeenByBrightness_18 rfl (lv_at hl 0 rfl) ?_
      refine lv_iload_n hx hb dX6_countSeenByBrightness_19 rfl (lv_at hl 1 rfl) ?_
      refine lv_iload_n hx hb dX6_countSeenByBrightness_20 rfl (lv_at hl 3 rfl) ?_
      refine core_p (v := .int (nI (cBr k (nI g) (nI (cl k g + 1 + j))))) (grV (n := 2) (As := [.int (nI g), .int (nI (cl k g + 1 + j))]) (rest := [.int (nI (gS (fun b => cBr k (nI g) (nI b)) (cl k g + 1) j))]) h0 hF (m_X6_countOfBrightness h0 (f := f) (k := k) hO  (nI g) (nI (cl k g + 1 + j))) wm_X6_39 wo_X6_countOfBrightness ws_X6__X6_countOfBrightness wz_X6 wc_X6_countOfBrightness ⟨by decide, by decide, by decide +kernel⟩ rfl ⟨Nat.le_of_ble_eq_true rfl, Nat.le_of_ble_eq_true rfl⟩ (ci := 5) ⟨_, hB 1 _ rfl⟩ rfl hB hS noA_old ⟨Nat.zero_le _, Nat.zero_le _⟩ hl.1 rfl (Nat.le_of_ble_eq_true rfl) dX6_countSeenByBrightness_21) ?_
      refine lv_iadd hx hb dX6_countSeenByBrightness_24 ?_
      refine lv_topE (y := nI (gS (fun b => cBr k (nI g) (nI b)) (cl k g + 1) (j + 1))) ((nI_add _ _)) ?_
      refine lv_istore_n (lv' := [(2, .int (nI (gS (fun b => cBr k (nI g) (nI b)) (cl k g + 1) (j + 1)))), (0, .ref (f 1)), (1, .int (nI g)), (3, .int (nI (cl k g + 1 + j)))]) hx hb dX6_countSeenByBrightness_25 rfl hl (by decide) rfl (fun ls hl => ?_)
      refine lv_iinc (v := nI (cl k g + 1 + (j + 1))) (lv' := [(3, .int (nI (cl k g + 1 + (j + 1)))), (2, .int (nI (gS (fun b => cBr k (nI g) (nI b)) (cl k g + 1) (j + 1)))), (0, .ref (f 1)), (1, .int (nI g))]) hx hb dX6_countSeenByBrightness_26 hl (k := 3) rfl (nI_1 _) (by decide) rfl (fun ls hl => ?_)
      refine lv_goto (tgt := 11) hx hb dX6_countSeenByBrightness_29 (by decide) ?_
      refine ih_11 (j + 1) (by omega) ls (lv_eqv (lv_sub (l' := [(0, .ref (f 1)), (1, .int (nI g)), (2, .int (nI (gS (fun b => cBr k (nI g) (nI b)) (cl k g + 1) (j + 1)))), (3, .int (nI (cl k g + 1 + (j + 1))))]) hl [2, 3, 1, 0] rfl) ?_)
      rfl
  exact key_11 (9 - cl k g) 0 (by omega) ls (lv_sub hl [2, 3, 1, 0] rfl)

set_option maxHeartbeats 4000000 in
set_option maxRecDepth 100000 in
theorem m_X6_dawnsUntilAllSeen {X : Cx} {l : Launch} (h0 : Init X) {f : Nat → Nat} {k : Sk} (hO : Ok k)  (x : Int32) (g : Nat) (hxg : x = nI g) (hg : g < 4) : PM X l yX6_dawnsUntilAllSeen cX6_dawnsUntilAllSeen 4 (some .int) 1 13 [.ref (f 1), .int x] (va_P X.D vwCl (skW X f k)) (.int (dM k g (k.2 0))) := by
  subst hxg
  refine Met.mk (Bh := va_P X.D vwCl (skW X f k)) (by decide) (Nat.le_of_ble_eq_true rfl) ?_
  intro p e s m below meth c ls hF hB hl
  have hl : lv_has ls 4 [(0, .ref (f 1)), (1, .int (nI g))] := hl
  obtain ⟨hx, hb, hml, hr, hlk, hown, hG⟩ := id hF
  have hK := hG.K h0
  have hS : va_S noA s.heap s.heap [] := va_S.rf
  have hO1 := hO.1
  have hO2 := hO.2.1
  have hO3 := hO.2.2.1
  refine lv_iconst (v := 0) hx hb dX6_dawnsUntilAllSeen_0 (by decide) ?_
  refine lv_istore_n (lv' := [(2, .int 0), (0, .ref (f 1)), (1, .int (nI g))]) hx hb dX6_dawnsUntilAllSeen_1 rfl hl (by decide) rfl (fun ls hl => ?_)
  refine lv_iconst (v := 0) hx hb dX6_dawnsUntilAllSeen_2 (by decide) ?_
  refine lv_istore_n (lv' := [(3, .int 0), (2, .int 0), (0, .ref (f 1)), (1, .int (nI g))]) hx hb dX6_dawnsUntilAllSeen_3 rfl hl (by decide) rfl (fun ls hl => ?_)
  have key_4 : ∀ (nf j : Nat), j + nf = k.2 0 → ∀ (ls : Array Slot), lv_has ls 4 [(0, .ref (f 1)), (1, .int (nI g)), (2, .int (dM k g j)), (3, .int (nI j))] → W p l e ({ frames := 1, cells := 0, slots := 0, locals := 13 } : Room) s m ([.ref (f 1), .int (nI g)] : List Value).toArray below meth c s.heap [] 0 0 (MQ below (qP (.int (dM k g (k.2 0)))) ([.ref (f 1), .int (nI g)] : List Value).toArray s 0 0 noA) (F0 m 4 ls []) := by
    intro nf
    induction nf with
    | zero =>
      intro j hj ls hl
      have hj_e : j = k.2 0 := by omega
      refine lv_iload_n hx hb dX6_dawnsUntilAllSeen_4 rfl (lv_at hl 3 rfl) ?_
      refine lv_aload_n hx hb dX6_dawnsUntilAllSeen_5 rfl (lv_at hl 0 rfl) ?_
      refine g_get (ci := 5) (v := .int (nI (k.2 0))) h0 hF inX6 hB 1 rfl rfl 0 (by decide) wf_X6_27 rfl rfl dX6_dawnsUntilAllSeen_6 ?_
      refine lv_icmp_ge (tgt := 48) hx hb dX6_dawnsUntilAllSeen_9 (by decide) (fun c_9 => ?_) (fun c_9 => absurd (nI_le (a := k.2 0) (b := j) (by omega) (by omega)) c_9)
      have n_9 := Int32.not_lt.mpr c_9
      refine lv_iload_n hx hb dX6_dawnsUntilAllSeen_48 rfl (lv_at hl 2 rfl) ?_
      exact pm_iret hF dX6_dawnsUntilAllSeen_49 (by rw [hj_e])
    | succ nf ih_4 =>
      intro j hj ls hl
      have hj_l : j < k.2 0 := by omega
      refine lv_iload_n hx hb dX6_dawnsUntilAllSeen_4 rfl (lv_at hl 3 rfl) ?_
      refine lv_aload_n hx hb dX6_dawnsUntilAllSeen_5 rfl (lv_at hl 0 rfl) ?_
      refine g_get (ci := 5) (v := .int (nI (k.2 0))) h0 hF inX6 hB 1 rfl rfl 0 (by decide) wf_X6_27 rfl rfl dX6_dawnsUntilAllSeen_6 ?_
      refine lv_icmp_ge (tgt := 48) hx hb dX6_dawnsUntilAllSeen_9 (by decide) (fun c_9 => absurd c_9 (nI_ge (a := j) (b := k.2 0) (by omega) (by omega))) (fun c_9 => ?_)
      have n_9 := Int32.not_le.mp c_9
      refine lv_aload_n hx hb dX6_dawnsUntilAllSeen_12 rfl (lv_at hl 0 rfl) ?_
      refine g_get (ci := 5) (v := .ref (f 5)) h0 hF inX6 hB 1 rfl rfl 2 (by decide) wf_X6_15 rfl rfl dX6_dawnsUntilAllSeen_13 ?_
      refine lv_iload_n hx hb dX6_dawnsUntilAllSeen_16 rfl (lv_at hl 3 rfl) ?_
      refine g_iald hx hb hK hB 5 0 rfl rfl j (rfl) (by omega) (by decide) dX6_dawnsUntilAllSeen_17 ?_
      refine lv_iload_n hx hb dX6_dawnsUntilAllSeen_18 rfl (lv_at hl 1 rfl) ?_
      refine lv_icmp_ne (tgt := 42) hx hb dX6_dawnsUntilAllSeen_19 (by decide) (fun c_19 => ?_) (fun c_19 => ?_)
      · refine lv_iinc (v := nI (j + 1)) (lv' := [(3, .int (nI (j + 1))), (0, .ref (f 1)), (1, .int (nI g)), (2, .int (dM k g j))]) hx hb dX6_dawnsUntilAllSeen_42 hl (k := 3) rfl (nI_1 j) (by decide) rfl (fun ls hl => ?_)
        refine lv_goto (tgt := 4) hx hb dX6_dawnsUntilAllSeen_45 (by decide) ?_
        refine ih_4 (j + 1) (by omega) ls (lv_eqv (lv_sub (l' := [(0, .ref (f 1)), (1, .int (nI g)), (2, .int (dM k g j)), (3, .int (nI (j + 1)))]) hl [1, 2, 3, 0] rfl) ?_)
        rw [show (dM k g j) = (dM k g (j + 1)) from (by rw [dM]; simp only [c_9, n_9, c_19, if_true, if_false])]
      · refine lv_iload_n hx hb dX6_dawnsUntilAllSeen_22 rfl (lv_at hl 2 rfl) ?_
        refine lv_aload_n hx hb dX6_dawnsUntilAllSeen_23 rfl (lv_at hl 0 rfl) ?_
        refine g_get (ci := 5) (v := .ref (f 8)) h0 hF inX6 hB 1 rfl rfl 5 (by decide) wf_X6_24 rfl rfl dX6_dawnsUntilAllSeen_24 ?_
        refine lv_iload_n hx hb dX6_dawnsUntilAllSeen_27 rfl (lv_at hl 1 rfl) ?_
        refine g_iald hx hb hK hB 8 0 rfl rfl g (rfl) (by omega) (by decide) dX6_dawnsUntilAllSeen_28 ?_
        refine lv_aload_n hx hb dX6_dawnsUntilAllSeen_29 rfl (lv_at hl 0 rfl) ?_
        refine g_get (ci := 5) (v := .ref (f 4)) h0 hF inX6 hB 1 rfl rfl 1 (by decide) wf_X6_9 rfl rfl dX6_dawnsUntilAllSeen_30 ?_
        refine lv_iload_n hx hb dX6_dawnsUntilAllSeen_33 rfl (lv_at hl 3 rfl) ?_
        refine g_iald hx hb hK hB 4 0 rfl rfl j (rfl) (by omega) (by decide) dX6_dawnsUntilAllSeen_34 ?_
        refine lv_isub hx hb dX6_dawnsUntilAllSeen_35 ?_
        refine lv_iconst (v := 1) hx hb dX6_dawnsUntilAllSeen_36 (by decide) ?_
        refine lv_iadd hx hb dX6_dawnsUntilAllSeen_37 ?_
        refine va_mmax hx hb (by rw [hl.1]; exact hml) hown (hG.hts h0 _ _ wm_X6_43) (hG.hts h0 _ _ wt_J9_max_7cf53) (hG.hts h0 _ _ wz_J9) (hG.hts h0 _ _ wc_J9_max_7cf53) (Nat.le_of_ble_eq_true rfl) (Nat.le_of_ble_eq_true rfl) (Nat.zero_le _) (Nat.zero_le _) dX6_dawnsUntilAllSeen_38 ?_
        refine lv_istore_n (lv' := [(2, .int (if dM k g j < ((k.1 4 g) - (k.1 0 j)) + 1 then ((k.1 4 g) - (k.1 0 j)) + 1 else dM k g j)), (0, .ref (f 1)), (1, .int (nI g)), (3, .int (nI j))]) hx hb dX6_dawnsUntilAllSeen_41 rfl hl (by decide) rfl (fun ls hl => ?_)
        refine lv_iinc (v := nI (j + 1)) (lv' := [(3, .int (nI (j + 1))), (2, .int (if dM k g j < ((k.1 4 g) - (k.1 0 j)) + 1 then ((k.1 4 g) - (k.1 0 j)) + 1 else dM k g j)), (0, .ref (f 1)), (1, .int (nI g))]) hx hb dX6_dawnsUntilAllSeen_42 hl (k := 3) rfl (nI_1 j) (by decide) rfl (fun ls hl => ?_)
        refine lv_goto (tgt := 4) hx hb dX6_dawnsUntilAllSeen_45 (by decide) ?_
        refine ih_4 (j + 1) (by omega) ls (lv_eqv (lv_sub (l' := [(0, .ref (f 1)), (1, .int (nI g)), (2, .int (if dM k g j < ((k.1 4 g) - (k.1 0 j)) + 1 then ((k.1 4 g) - (k.1 0 j)) + 1 else dM k g j)), (3, .int (nI (j + 1)))]) hl [2, 3, 1, 0] rfl) ?_)
        rw [show (if dM k g j < ((k.1 4 g) - (k.1 0 j)) + 1 then ((k.1 4 g) - (k.1 0 j)) + 1 else dM k g j) = (dM k g (j + 1)) from (by rw [dM]; simp only [c_9, n_9, c_19, if_true, if_false])]
  exact key_4 (k.2 0) 0 (by omega) ls (lv_sub hl [2, 3, 1, 0] rfl)

set_option maxHeartbeats 4000000 in
set_option maxRecDepth 100000 in
theorem m_X6_countClaimed {X : Cx} {l : Launch} (h0 : Init X) {f : Nat → Nat} {k : Sk} (hO : Ok k)   : PM X l yX6_countClaimed cX6_countClaimed 1 (some .int) 1 24 [.ref (f 1)] (va_P X.D vwCl (skW X f k)) (.int (nI (k.2 0) - nI (cN (fun z => decide (k.1 2 z = -4)) (k.2 0)))) := by
  refine Met.mk (Bh := va_P X.D vwCl (skW X f k)) (by decide) (Nat.le_of_ble_eq_true rfl) ?_
  intro p e s m below meth c ls hF hB hl
  have hl : lv_has ls 1 [(0, .ref (f 1))] := hl
  obtain ⟨hx, hb, hml, hr, hlk, hown, hG⟩ := id hF
  have hK := hG.K h0
  have hS : va_S noA s.heap s.heap [] := va_S.rf
  have hO1 := hO.1
  have hO2 := hO.2.1
  have hO3 := hO.2.2.1
  refine lv_aload_n hx hb dX6_countClaimed_0 rfl (lv_at hl 0 rfl) ?_
  refine g_get (ci := 5) (v := .int (nI (k.2 0))) h0 hF inX6 hB 1 rfl rfl 0 (by decide) wf_X6_27 rfl rfl dX6_countClaimed_1 ?_
  refine lv_aload_n hx hb dX6_countClaimed_4 rfl (lv_at hl 0 rfl) ?_
  refine g_get (ci := 5) (v := .ref (f 6)) h0 hF inX6 hB 1 rfl rfl 3 (by decide) wf_X6_18 rfl rfl dX6_countClaimed_5 ?_
  refine lv_aload_n hx hb dX6_countClaimed_8 rfl (lv_at hl 0 rfl) ?_
  refine g_get (ci := 5) (v := .int (nI (k.2 0))) h0 hF inX6 hB 1 rfl rfl 0 (by decide) wf_X6_27 rfl rfl dX6_countClaimed_9 ?_
  refine lv_bipush (v := (-4)) hx hb dX6_countClaimed_12 (by decide) ?_
  refine core_p (v := .int (nI (cN (fun z => decide (k.1 2 z = (-4))) (k.2 0)))) (grSN (n := 3) (As := [.ref (f 6), .int (nI (k.2 0)), .int (-4)]) (rest := [.int (nI (k.2 0))]) h0 hF (m_X9_countAlike h0 (a := f 6) (N := 8) (F := k.1 2) (k.2 0) (by omega) (by omega) (-4)) wmn_X6_48 wt_X9_countAlike wz_X9 wc_X9_countAlike ⟨by decide, by decide, by decide +kernel⟩ rfl ⟨Nat.le_of_ble_eq_true rfl, Nat.le_of_ble_eq_true rfl⟩ (hB.sub [6] rfl) hS noA_old ⟨Nat.zero_le _, Nat.zero_le _⟩ hl.1 rfl (Nat.le_of_ble_eq_true rfl) dX6_countClaimed_14) ?_
  refine lv_isub hx hb dX6_countClaimed_17 ?_
  exact pm_iret hF dX6_countClaimed_18 (by simp [])

set_option maxHeartbeats 4000000 in
set_option maxRecDepth 100000 in
theorem m_X6_countClaimedBy {X : Cx} {l : Launch} (h0 : Init X) {f : Nat → Nat} {k : Sk} (hO : Ok k)  (g : Int32) : PM X l yX6_countClaimedBy cX6_countClaimedBy 2 (some .int) 1 24 [.ref (f 1), .int g] (va_P X.D vwCl (skW X f k)) (.int (nI (cN (fun z => decide (k.1 2 z = g)) (k.2 0)))) := by
  refine Met.mk (Bh := va_P X.D vwCl (skW X f k)) (by decide) (Nat.le_of_ble_eq_true rfl) ?_
  intro p e s m below meth c ls hF hB hl
  have hl : lv_has ls 2 [(0, .ref (f 1)), (1, .int g)] := hl
  obtain ⟨hx, hb, hml, hr, hlk, hown, hG⟩ := id hF
  have hK := hG.K h0
  have hS : va_S noA s.heap s.heap [] := va_S.rf
  have hO1 := hO.1
  have hO2 := hO.2.1
  have hO3 := hO.2.2.1
  refine lv_aload_n hx hb dX6_countClaimedBy_0 rfl (lv_at hl 0 rfl) ?_
  refine g_get (ci := 5) (v := .ref (f 6)) h0 hF inX6 hB 1 rfl rfl 3 (by decide) wf_X6_18 rfl rfl dX6_countClaimedBy_1 ?_
  refine lv_aload_n hx hb dX6_countClaimedBy_4 rfl (lv_at hl 0 rfl) ?_
  refine g_get (ci := 5) (v := .int (nI (k.2 0))) h0 hF inX6 hB 1 rfl rfl 0 (by decide) wf_X6_27 rfl rfl dX6_countClaimedBy_5 ?_
  refine lv_iload_n hx hb dX6_countClaimedBy_8 rfl (lv_at hl 1 rfl) ?_
  refine core_p (v := .int (nI (cN (fun z => decide (k.1 2 z = g)) (k.2 0)))) (grSN (n := 3) (As := [.ref (f 6), .int (nI (k.2 0)), .int g]) (rest := []) h0 hF (m_X9_countAlike h0 (a := f 6) (N := 8) (F := k.1 2) (k.2 0) (by omega) (by omega) g) wmn_X6_48 wt_X9_countAlike wz_X9 wc_X9_countAlike ⟨by decide, by decide, by decide +kernel⟩ rfl ⟨Nat.le_of_ble_eq_true rfl, Nat.le_of_ble_eq_true rfl⟩ (hB.sub [6] rfl) hS noA_old ⟨Nat.zero_le _, Nat.zero_le _⟩ hl.1 rfl (Nat.le_of_ble_eq_true rfl) dX6_countClaimedBy_9) ?_
  exact pm_iret hF dX6_countClaimedBy_12 (rfl)

set_option maxHeartbeats 4000000 in
set_option maxRecDepth 100000 in
theorem m_X6_isBrighter {X : Cx} {l : Launch} (h0 : Init X) {f : Nat → Nat} {k : Sk} (hO : Ok k)  (x : Int32) (i : Nat) (hxi : x = nI i) (hi : i < k.2 0)(y : Int32) (j : Nat) (hxj : y = nI j) (hj : j < k.2 0) : PM X l yX6_isBrighter cX6_isBrighter 3 (some .boolean) 0 0 [.ref (f 1), .int x, .int y] (va_P X.D vwCl (skW X f k)) (.int (bI (brB k i j))) := by
  subst hxi
  subst hxj
  refine Met.mk (Bh := va_P X.D vwCl (skW X f k)) (by decide) (Nat.le_of_ble_eq_true rfl) ?_
  intro p e s m below meth c ls hF hB hl
  have hl : lv_has ls 3 [(0, .ref (f 1)), (1, .int (nI i)), (2, .int (nI j))] := hl
  obtain ⟨hx, hb, hml, hr, hlk, hown, hG⟩ := id hF
  have hK := hG.K h0
  have hS : va_S noA s.heap s.heap [] := va_S.rf
  have hO1 := hO.1
  have hO2 := hO.2.1
  have hO3 := hO.2.2.1
  refine lv_aload_n hx hb dX6_isBrighter_0 rfl (lv_at hl 0 rfl) ?_
  refine g_get (ci := 5) (v := .ref (f 4)) h0 hF inX6 hB 1 rfl rfl 1 (by decide) wf_X6_9 rfl rfl dX6_isBrighter_1 ?_
  refine lv_iload_n hx hb dX6_isBrighter_4 rfl (lv_at hl 1 rfl) ?_
  refine g_iald hx hb hK hB 4 0 rfl rfl i (rfl) (by omega) (by decide) dX6_isBrighter_5 ?_
  refine lv_aload_n hx hb dX6_isBrighter_6 rfl (lv_at hl 0 rfl) ?_
  refine g_get (ci := 5) (v := .ref (f 4)) h0 hF inX6 hB 1 rfl rfl 1 (by decide) wf_X6_9 rfl rfl dX6_isBrighter_7 ?_
  refine lv_iload_n hx hb dX6_isBrighter_10 rfl (lv_at hl 2 rfl) ?_
  refine g_iald hx hb hK hB 4 0 rfl rfl j (rfl) (by omega) (by decide) dX6_isBrighter_11 ?_
  refine lv_icmp_eq (tgt := 36) hx hb dX6_isBrighter_12 (by decide) (fun c_12 => ?_) (fun c_12 => ?_)
  · refine lv_aload_n hx hb dX6_isBrighter_36 rfl (lv_at hl 0 rfl) ?_
    refine g_get (ci := 5) (v := .ref (f 7)) h0 hF inX6 hB 1 rfl rfl 4 (by decide) wf_X6_21 rfl rfl dX6_isBrighter_37 ?_
    refine lv_iload_n hx hb dX6_isBrighter_40 rfl (lv_at hl 1 rfl) ?_
    refine g_iald hx hb hK hB 7 0 rfl rfl i (rfl) (by omega) (by decide) dX6_isBrighter_41 ?_
    refine lv_aload_n hx hb dX6_isBrighter_42 rfl (lv_at hl 0 rfl) ?_
    refine g_get (ci := 5) (v := .ref (f 7)) h0 hF inX6 hB 1 rfl rfl 4 (by decide) wf_X6_21 rfl rfl dX6_isBrighter_43 ?_
    refine lv_iload_n hx hb dX6_isBrighter_46 rfl (lv_at hl 2 rfl) ?_
    refine g_iald hx hb hK hB 7 0 rfl rfl j (rfl) (by omega) (by decide) dX6_isBrighter_47 ?_
    refine lv_icmp_eq (tgt := 72) hx hb dX6_isBrighter_48 (by decide) (fun c_48 => ?_) (fun c_48 => ?_)
    · refine lv_iload_n hx hb dX6_isBrighter_72 rfl (lv_at hl 1 rfl) ?_
      refine lv_iload_n hx hb dX6_isBrighter_73 rfl (lv_at hl 2 rfl) ?_
      refine lv_icmp_ge (tgt := 81) hx hb dX6_isBrighter_74 (by decide) (fun c_74 => ?_) (fun c_74 => ?_)
      · have n_74 := Int32.not_lt.mpr c_74
        refine lv_iconst (v := 0) hx hb dX6_isBrighter_81 (by decide) ?_
        exact pm_zret hF dX6_isBrighter_82 rfl (by simp [bI, brB, c_12, c_48, c_74, n_74])
      · have n_74 := Int32.not_le.mp c_74
        refine lv_iconst (v := 1) hx hb dX6_isBrighter_77 (by decide) ?_
        refine lv_goto (tgt := 82) hx hb dX6_isBrighter_78 (by decide) ?_
        exact pm_zret hF dX6_isBrighter_82 rfl (by simp [bI, brB, c_12, c_48, c_74, n_74])
    · refine lv_aload_n hx hb dX6_isBrighter_51 rfl (lv_at hl 0 rfl) ?_
      refine g_get (ci := 5) (v := .ref (f 7)) h0 hF inX6 hB 1 rfl rfl 4 (by decide) wf_X6_21 rfl rfl dX6_isBrighter_52 ?_
      refine lv_iload_n hx hb dX6_isBrighter_55 rfl (lv_at hl 1 rfl) ?_
      refine g_iald hx hb hK hB 7 0 rfl rfl i (rfl) (by omega) (by decide) dX6_isBrighter_56 ?_
      refine lv_aload_n hx hb dX6_isBrighter_57 rfl (lv_at hl 0 rfl) ?_
      refine g_get (ci := 5) (v := .ref (f 7)) h0 hF inX6 hB 1 rfl rfl 4 (by decide) wf_X6_21 rfl rfl dX6_isBrighter_58 ?_
      refine lv_iload_n hx hb dX6_isBrighter_61 rfl (lv_at hl 2 rfl) ?_
      refine g_iald hx hb hK hB 7 0 rfl rfl j (rfl) (by omega) (by decide) dX6_isBrighter_62 ?_
      refine lv_icmp_le (tgt := 70) hx hb dX6_isBrighter_63 (by decide) (fun c_63 => ?_) (fun c_63 => ?_)
      · have n_63 := Int32.not_lt.mpr c_63
        refine lv_iconst (v := 0) hx hb dX6_isBrighter_70 (by decide) ?_
        exact pm_zret hF dX6_isBrighter_71 rfl (by simp [bI, brB, c_12, c_48, c_63, n_63])
      · have n_63 := Int32.not_le.mp c_63
        refine lv_iconst (v := 1) hx hb dX6_isBrighter_66 (by decide) ?_
        refine lv_goto (tgt := 71) hx hb dX6_isBrighter_67 (by decide) ?_
        exact pm_zret hF dX6_isBrighter_71 rfl (by simp [bI, brB, c_12, c_48, c_63, n_63])
  · refine lv_aload_n hx hb dX6_isBrighter_15 rfl (lv_at hl 0 rfl) ?_
    refine g_get (ci := 5) (v := .ref (f 4)) h0 hF inX6 hB 1 rfl rfl 1 (by decide) wf_X6_9 rfl rfl dX6_isBrighter_16 ?_
    refine lv_iload_n hx hb dX6_isBrighter_19 rfl (lv_at hl 1 rfl) ?_
    refine g_iald hx hb hK hB 4 0 rfl rfl i (rfl) (by omega) (by decide) dX6_isBrighter_20 ?_
    refine lv_aload_n hx hb dX6_isBrighter_21 rfl (lv_at hl 0 rfl) ?_
    refine g_get (ci := 5) (v := .ref (f 4)) h0 hF inX6 hB 1 rfl rfl 1 (by decide) wf_X6_9 rfl rfl dX6_isBrighter_22 ?_
    refine lv_iload_n hx hb dX6_isBrighter_25 rfl (lv_at hl 2 rfl) ?_
    refine g_iald hx hb hK hB 4 0 rfl rfl j (rfl) (by omega) (by decide) dX6_isBrighter_26 ?_
    refine lv_icmp_le (tgt := 34) hx hb dX6_isBrighter_27 (by decide) (fun c_27 => ?_) (fun c_27 => ?_)
    · have n_27 := Int32.not_lt.mpr c_27
      refine lv_iconst (v := 0) hx hb dX6_isBrighter_34 (by decide) ?_
      exact pm_zret hF dX6_isBrighter_35 rfl (by simp [bI, brB, c_12, c_27, n_27])
    · have n_27 := Int32.not_le.mp c_27
      refine lv_iconst (v := 1) hx hb dX6_isBrighter_30 (by decide) ?_
      refine lv_goto (tgt := 35) hx hb dX6_isBrighter_31 (by decide) ?_
      exact pm_zret hF dX6_isBrighter_35 rfl (by simp [bI, brB, c_12, c_27, n_27])

set_option maxHeartbeats 4000000 in
set_option maxRecDepth 100000 in
theorem m_X6_starAtPlace {X : Cx} {l : Launch} (h0 : Init X) {f : Nat → Nat} {k : Sk} (hO : Ok k)  (q : Int32) : PM X l yX6_starAtPlace cX6_starAtPlace 5 (some .int) 1 22 [.ref (f 1), .int q] (va_P X.D vwCl (skW X f k)) (.int (fnd (fun z => decide (nI (rankS k z) = q)) (-1) (k.2 0) 0)) := by
  refine Met.mk (Bh := va_P X.D vwCl (skW X f k)) (by decide) (Nat.le_of_ble_eq_true rfl) ?_
  intro p e s m below meth c ls hF hB hl
  have hl : lv_has ls 5 [(0, .ref (f 1)), (1, .int q)] := hl
  obtain ⟨hx, hb, hml, hr, hlk, hown, hG⟩ := id hF
  have hK := hG.K h0
  have hS : va_S noA s.heap s.heap [] := va_S.rf
  have hO1 := hO.1
  have hO2 := hO.2.1
  have hO3 := hO.2.2.1
  refine lv_iconst (v := 0) hx hb dX6_starAtPlace_0 (by decide) ?_
  refine lv_istore_n (lv' := [(2, .int 0), (0, .ref (f 1)), (1, .int q)]) hx hb dX6_starAtPlace_1 rfl hl (by decide) rfl (fun ls hl => ?_)
  have key_2 : ∀ (nf j : Nat), j + nf = k.2 0 → fnd (fun z => decide (nI (rankS k z) = q)) (-1) (k.2 0) 0 = fnd (fun z => decide (nI (rankS k z) = q)) (-1) nf j → ∀ (ls : Array Slot), lv_has ls 5 [(0, .ref (f 1)), (1, .int q), (2, .int (nI j))] → W p l e ({ frames := 1, cells := 0, slots := 0, locals := 22 } : Room) s m ([.ref (f 1), .int q] : List Value).toArray below meth c s.heap [] 0 0 (MQ below (qP (.int (fnd (fun z => decide (nI (rankS k z) = q)) (-1) (k.2 0) 0))) ([.ref (f 1), .int q] : List Value).toArray s 0 0 noA) (F0 m 2 ls []) := by
    intro nf
    induction nf with
    | zero =>
      intro j hj hx_j ls hl
      have hj_e : j = k.2 0 := by omega
      refine lv_iload_n hx hb dX6_starAtPlace_2 rfl (lv_at hl 2 rfl) ?_
      refine lv_aload_n hx hb dX6_starAtPlace_3 rfl (lv_at hl 0 rfl) ?_
      refine g_get (ci := 5) (v := .int (nI (k.2 0))) h0 hF inX6 hB 1 rfl rfl 0 (by decide) wf_X6_27 rfl rfl dX6_starAtPlace_4 ?_
      refine lv_icmp_ge (tgt := 56) hx hb dX6_starAtPlace_7 (by decide) (fun c_7 => ?_) (fun c_7 => absurd (nI_le (a := k.2 0) (b := j) (by omega) (by omega)) c_7)
      have n_7 := Int32.not_lt.mpr c_7
      refine lv_iconst (v := (-1)) hx hb dX6_starAtPlace_56 (by decide) ?_
      exact pm_iret hF dX6_starAtPlace_57 (by rw [hx_j]; rfl)
    | succ nf ih_2 =>
      intro j hj hx_j ls hl
      have hj_l : j < k.2 0 := by omega
      refine lv_iload_n hx hb dX6_starAtPlace_2 rfl (lv_at hl 2 rfl) ?_
      refine lv_aload_n hx hb dX6_starAtPlace_3 rfl (lv_at hl 0 rfl) ?_
      refine g_get (ci := 5) (v := .int (nI (k.2 0))) h0 hF inX6 hB 1 rfl rfl 0 (by decide) wf_X6_27 rfl rfl dX6_starAtPlace_4 ?_
      refine lv_icmp_ge (tgt := 56) hx hb dX6_starAtPlace_7 (by decide) (fun c_7 => absurd c_7 (nI_ge (a := j) (b := k.2 0) (by omega) (by omega))) (fun c_7 => ?_)
      have n_7 := Int32.not_le.mp c_7
      refine lv_iconst (v := 0) hx hb dX6_starAtPlace_10 (by decide) ?_
      refine lv_istore_n (lv' := [(3, .int 0), (0, .ref (f 1)), (1, .int q), (2, .int (nI j))]) hx hb dX6_starAtPlace_11 rfl hl (by decide) rfl (fun ls hl => ?_)
      refine lv_iconst (v := 0) hx hb dX6_starAtPlace_12 (by decide) ?_
      refine lv_istore (lv' := [(4, .int 0), (3, .int 0), (0, .ref (f 1)), (1, .int q), (2, .int (nI j))]) hx hb dX6_starAtPlace_13 hl (by decide) rfl (fun ls hl => ?_)
      have key_15 : ∀ (nf i : Nat), i + nf = k.2 0 → ∀ (ls : Array Slot), lv_has ls 5 [(0, .ref (f 1)), (1, .int q), (2, .int (nI j)), (3, .int (nI (cN (fun z => brB k z j) i))), (4, .int (nI i))] → W p l e ({ frames := 1, cells := 0, slots := 0, locals := 22 } : Room) s m ([.ref (f 1), .int q] : List Value).toArray below meth c s.heap [] 0 0 (MQ below (qP (.int (fnd (fun z => decide (nI (rankS k z) = q)) (-1) (k.2 0) 0))) ([.ref (f 1), .int q] : List Value).toArray s 0 0 noA) (F0 m 15 ls []) := by
        intro nf
        induction nf with
        | zero =>
          intro i hi ls hl
          have hi_e : i = k.2 0 := by omega
          refine lv_iload hx hb dX6_starAtPlace_15 (lv_at hl 4 rfl) ?_
          refine lv_aload_n hx hb dX6_starAtPlace_17 rfl (lv_at hl 0 rfl) ?_
          refine g_get (ci := 5) (v := .int (nI (k.2 0))) h0 hF inX6 hB 1 rfl rfl 0 (by decide) wf_X6_27 rfl rfl dX6_starAtPlace_18 ?_
          refine lv_icmp_ge (tgt := 43) hx hb dX6_starAtPlace_21 (by decide) (fun c_21 => ?_) (fun c_21 => absurd (nI_le (a := k.2 0) (b := i) (by omega) (by omega)) c_21)
          have n_21 := Int32.not_lt.mpr c_21
          refine lv_iload_n hx hb dX6_starAtPlace_43 rfl (lv_at hl 3 rfl) ?_
          refine lv_iload_n hx hb dX6_starAtPlace_44 rfl (lv_at hl 1 rfl) ?_
          refine lv_icmp_ne (tgt := 50) hx hb dX6_starAtPlace_45 (by decide) (fun c_45 => ?_) (fun c_45 => ?_)
          · refine lv_iinc (v := nI (j + 1)) (lv' := [(2, .int (nI (j + 1))), (0, .ref (f 1)), (1, .int q), (3, .int (nI (cN (fun z => brB k z j) i))), (4, .int (nI i))]) hx hb dX6_starAtPlace_50 hl (k := 2) rfl (nI_1 j) (by decide) rfl (fun ls hl => ?_)
            refine lv_goto (tgt := 2) hx hb dX6_starAtPlace_53 (by decide) ?_
            refine ih_2 (j + 1) (by omega) (by rw [hx_j, fnd, if_neg (fun h9 => c_45 (by have h8 := of_decide_eq_true h9; rw [rankS, ← hi_e] at h8; exact h8))]) ls (lv_eqv (lv_sub (l' := [(0, .ref (f 1)), (1, .int q), (2, .int (nI (j + 1)))]) hl [1, 2, 0] rfl) ?_)
            rfl
          · refine lv_iload_n hx hb dX6_starAtPlace_48 rfl (lv_at hl 2 rfl) ?_
            exact pm_iret hF dX6_starAtPlace_49 (by rw [hx_j, fnd, if_pos (decide_eq_true (by rw [rankS, ← hi_e]; exact c_45))])
        | succ nf ih_15 =>
          intro i hi ls hl
          have hi_l : i < k.2 0 := by omega
          refine lv_iload hx hb dX6_starAtPlace_15 (lv_at hl 4 rfl) ?_
          refine lv_aload_n hx hb dX6_starAtPlace_17 rfl (lv_at hl 0 rfl) ?_
          refine g_get (ci := 5) (v := .int (nI (k.2 0))) h0 hF inX6 hB 1 rfl rfl 0 (by decide) wf_X6_27 rfl rfl dX6_starAtPlace_18 ?_
          refine lv_icmp_ge (tgt := 43) hx hb dX6_starAtPlace_21 (by decide) (fun c_21 => absurd c_21 (nI_ge (a := i) (b := k.2 0) (by omega) (by omega))) (fun c_21 => ?_)
          have n_21 := Int32.not_le.mp c_21
          refine lv_aload_n hx hb dX6_starAtPlace_24 rfl (lv_at hl 0 rfl) ?_
          refine lv_iload hx hb dX6_starAtPlace_25 (lv_at hl 4 rfl) ?_
          refine lv_iload_n hx hb dX6_starAtPlace_27 rfl (lv_at hl 2 rfl) ?_
          refine core_p (v := .int (bI (brB k i j))) (grV (n := 2) (As := [.int (nI i), .int (nI j)]) (rest := []) h0 hF (m_X6_isBrighter h0 (f := f) (k := k) hO  (nI i) i rfl (by omega) (nI j) j rfl (by omega)) wm_X6_52 wo_X6_isBrighter ws_X6__X6_isBrighter wz_X6 wc_X6_isBrighter ⟨by decide, by decide, by decide +kernel⟩ rfl ⟨Nat.le_of_ble_eq_true rfl, Nat.le_of_ble_eq_true rfl⟩ (ci := 5) ⟨_, hB 1 _ rfl⟩ rfl hB hS noA_old ⟨Nat.zero_le _, Nat.zero_le _⟩ hl.1 rfl (Nat.le_of_ble_eq_true rfl) dX6_starAtPlace_28) ?_
          refine lv_if_eq (tgt := 37) hx hb dX6_starAtPlace_31 (by decide) (fun c_31 => ?_) (fun c_31 => ?_)
          · have n_31 := bI_0.mp c_31
            refine lv_iinc (v := nI (i + 1)) (lv' := [(4, .int (nI (i + 1))), (0, .ref (f 1)), (1, .int q), (2, .int (nI j)), (3, .int (nI (cN (fun z => brB k z j) i)))]) hx hb dX6_starAtPlace_37 hl (k := 4) rfl (nI_1 i) (by decide) rfl (fun ls hl => ?_)
            refine lv_goto (tgt := 15) hx hb dX6_starAtPlace_40 (by decide) ?_
            refine ih_15 (i + 1) (by omega) ls (lv_eqv (lv_sub (l' := [(0, .ref (f 1)), (1, .int q), (2, .int (nI j)), (3, .int (nI (cN (fun z => brB k z j) i))), (4, .int (nI (i + 1)))]) hl [1, 2, 3, 4, 0] rfl) ?_)
            rw [show (nI (cN (fun z => brB k z j) i)) = (nI (cN (fun z => brB k z j) (i + 1))) from (congrArg nI (cN_f (by simp [c_7, n_7, c_21, n_21, n_31])).symm)]
          · have n_31 := bI_n0.mp c_31
            refine lv_iinc (v := nI ((cN (fun z => brB k z j) i) + 1)) (lv' := [(3, .int (nI ((cN (fun z => brB k z j) i) + 1))), (0, .ref (f 1)), (1, .int q), (2, .int (nI j)), (4, .int (nI i))]) hx hb dX6_starAtPlace_34 hl (k := 3) rfl (nI_1 (cN (fun z => brB k z j) i)) (by decide) rfl (fun ls hl => ?_)
            refine lv_iinc (v := nI (i + 1)) (lv' := [(4, .int (nI (i + 1))), (3, .int (nI ((cN (fun z => brB k z j) i) + 1))), (0, .ref (f 1)), (1, .int q), (2, .int (nI j))]) hx hb dX6_starAtPlace_37 hl (k := 4) rfl (nI_1 i) (by decide) rfl (fun ls hl => ?_)
            refine lv_goto (tgt := 15) hx hb dX6_starAtPlace_40 (by decide) ?_
            refine ih_15 (i + 1) (by omega) ls (lv_eqv (lv_sub (l' := [(0, .ref (f 1)), (1, .int q), (2, .int (nI j)), (3, .int (nI ((cN (fun z => brB k z j) i) + 1))), (4, .int (nI (i + 1)))]) hl [2, 3, 4, 1, 0] rfl) ?_)
            rw [show (nI ((cN (fun z => brB k z j) i) + 1)) = (nI (cN (fun z => brB k z j) (i + 1))) from (congrArg nI (cN_t (by simp [c_7, n_7, c_21, n_21, n_31])).symm)]
      exact key_15 (k.2 0) 0 (by omega) ls (lv_sub hl [2, 3, 4, 1, 0] rfl)
  exact key_2 (k.2 0) 0 (by omega) (rfl) ls (lv_sub hl [1, 2, 0] rfl)
