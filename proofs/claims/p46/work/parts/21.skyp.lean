set_option maxHeartbeats 4000000 in
set_option maxRecDepth 100000 in
theorem m_X7_isImpounded {X : Cx} {l : Launch} (h0 : Init X) {f : Nat → Nat} {k : Sk} (hO : Ok k)  (x : Int32) (w : Nat) (hxw : x = nI w) (hw : w < k.2 2) : PM X l yX7_isImpounded cX7_isImpounded 2 (some .boolean) 0 0 [.ref (f 3), .int x] (va_P X.D vwCl (skW X f k)) (.int (bI (isImp k w))) := by
  subst hxw
  refine Met.mk (Bh := va_P X.D vwCl (skW X f k)) (by decide) (Nat.le_of_ble_eq_true rfl) ?_
  intro p e s m below meth c ls hF hB hl
  have hl : lv_has ls 2 [(0, .ref (f 3)), (1, .int (nI w))] := hl
  obtain ⟨hx, hb, hml, hr, hlk, hown, hG⟩ := id hF
  have hK := hG.K h0
  have hS : va_S noA s.heap s.heap [] := va_S.rf
  have hO1 := hO.1
  have hO2 := hO.2.1
  have hO3 := hO.2.2.1
  refine lv_aload_n hx hb dX7_isImpounded_0 rfl (lv_at hl 0 rfl) ?_
  refine g_get (ci := 6) (v := .ref (f 22)) h0 hF inX7 hB 3 rfl rfl 5 (by decide) wf_X7_24 rfl rfl dX7_isImpounded_1 ?_
  refine lv_iload_n hx hb dX7_isImpounded_4 rfl (lv_at hl 1 rfl) ?_
  refine g_iald hx hb hK hB 22 0 rfl rfl w (rfl) (by omega) (by decide) dX7_isImpounded_5 ?_
  refine lv_bipush (v := (-4)) hx hb dX7_isImpounded_6 (by decide) ?_
  refine lv_icmp_eq (tgt := 15) hx hb dX7_isImpounded_8 (by decide) (fun c_8 => ?_) (fun c_8 => ?_)
  · refine lv_iconst (v := 0) hx hb dX7_isImpounded_15 (by decide) ?_
    exact pm_zret hF dX7_isImpounded_16 rfl (by simp [bI, isImp, c_8])
  · refine lv_iconst (v := 1) hx hb dX7_isImpounded_11 (by decide) ?_
    refine lv_goto (tgt := 16) hx hb dX7_isImpounded_12 (by decide) ?_
    exact pm_zret hF dX7_isImpounded_16 rfl (by simp [bI, isImp, c_8])

set_option maxHeartbeats 4000000 in
set_option maxRecDepth 100000 in
theorem m_X7_countOn {X : Cx} {l : Launch} (h0 : Init X) {f : Nat → Nat} {k : Sk} (hO : Ok k)  (g : Int32) : PM X l yX7_countOn cX7_countOn 2 (some .int) 1 24 [.ref (f 3), .int g] (va_P X.D vwCl (skW X f k)) (.int (nI (cN (fun z => decide (k.1 15 z = g)) (k.2 2)))) := by
  refine Met.mk (Bh := va_P X.D vwCl (skW X f k)) (by decide) (Nat.le_of_ble_eq_true rfl) ?_
  intro p e s m below meth c ls hF hB hl
  have hl : lv_has ls 2 [(0, .ref (f 3)), (1, .int g)] := hl
  obtain ⟨hx, hb, hml, hr, hlk, hown, hG⟩ := id hF
  have hK := hG.K h0
  have hS : va_S noA s.heap s.heap [] := va_S.rf
  have hO1 := hO.1
  have hO2 := hO.2.1
  have hO3 := hO.2.2.1
  refine lv_aload_n hx hb dX7_countOn_0 rfl (lv_at hl 0 rfl) ?_
  refine g_get (ci := 6) (v := .ref (f 19)) h0 hF inX7 hB 3 rfl rfl 2 (by decide) wf_X7_15 rfl rfl dX7_countOn_1 ?_
  refine lv_aload_n hx hb dX7_countOn_4 rfl (lv_at hl 0 rfl) ?_
  refine g_get (ci := 6) (v := .int (nI (k.2 2))) h0 hF inX7 hB 3 rfl rfl 0 (by decide) wf_X7_27 rfl rfl dX7_countOn_5 ?_
  refine lv_iload_n hx hb dX7_countOn_8 rfl (lv_at hl 1 rfl) ?_
  refine core_p (v := .int (nI (cN (fun z => decide (k.1 15 z = g)) (k.2 2)))) (grSN (n := 3) (As := [.ref (f 19), .int (nI (k.2 2)), .int g]) (rest := []) h0 hF (m_X9_countAlike h0 (a := f 19) (N := 8) (F := k.1 15) (k.2 2) (by omega) (by omega) g) wmn_X7_35 wt_X9_countAlike wz_X9 wc_X9_countAlike ⟨by decide, by decide, by decide +kernel⟩ rfl ⟨Nat.le_of_ble_eq_true rfl, Nat.le_of_ble_eq_true rfl⟩ (hB.sub [19] rfl) hS noA_old ⟨Nat.zero_le _, Nat.zero_le _⟩ hl.1 rfl (Nat.le_of_ble_eq_true rfl) dX7_countOn_9) ?_
  exact pm_iret hF dX7_countOn_12 (rfl)

set_option maxHeartbeats 4000000 in
set_option maxRecDepth 100000 in
theorem m_X7_countOf {X : Cx} {l : Launch} (h0 : Init X) {f : Nat → Nat} {k : Sk} (hO : Ok k)  (g : Int32) : PM X l yX7_countOf cX7_countOf 2 (some .int) 1 24 [.ref (f 3), .int g] (va_P X.D vwCl (skW X f k)) (.int (nI (cN (fun z => decide (k.1 14 z = g)) (k.2 2)))) := by
  refine Met.mk (Bh := va_P X.D vwCl (skW X f k)) (by decide) (Nat.le_of_ble_eq_true rfl) ?_
  intro p e s m below meth c ls hF hB hl
  have hl : lv_has ls 2 [(0, .ref (f 3)), (1, .int g)] := hl
  obtain ⟨hx, hb, hml, hr, hlk, hown, hG⟩ := id hF
  have hK := hG.K h0
  have hS : va_S noA s.heap s.heap [] := va_S.rf
  have hO1 := hO.1
  have hO2 := hO.2.1
  have hO3 := hO.2.2.1
  refine lv_aload_n hx hb dX7_countOf_0 rfl (lv_at hl 0 rfl) ?_
  refine g_get (ci := 6) (v := .ref (f 18)) h0 hF inX7 hB 3 rfl rfl 1 (by decide) wf_X7_9 rfl rfl dX7_countOf_1 ?_
  refine lv_aload_n hx hb dX7_countOf_4 rfl (lv_at hl 0 rfl) ?_
  refine g_get (ci := 6) (v := .int (nI (k.2 2))) h0 hF inX7 hB 3 rfl rfl 0 (by decide) wf_X7_27 rfl rfl dX7_countOf_5 ?_
  refine lv_iload_n hx hb dX7_countOf_8 rfl (lv_at hl 1 rfl) ?_
  refine core_p (v := .int (nI (cN (fun z => decide (k.1 14 z = g)) (k.2 2)))) (grSN (n := 3) (As := [.ref (f 18), .int (nI (k.2 2)), .int g]) (rest := []) h0 hF (m_X9_countAlike h0 (a := f 18) (N := 8) (F := k.1 14) (k.2 2) (by omega) (by omega) g) wmn_X7_35 wt_X9_countAlike wz_X9 wc_X9_countAlike ⟨by decide, by decide, by decide +kernel⟩ rfl ⟨Nat.le_of_ble_eq_true rfl, Nat.le_of_ble_eq_true rfl⟩ (hB.sub [18] rfl) hS noA_old ⟨Nat.zero_le _, Nat.zero_le _⟩ hl.1 rfl (Nat.le_of_ble_eq_true rfl) dX7_countOf_9) ?_
  exact pm_iret hF dX7_countOf_12 (rfl)

set_option maxHeartbeats 4000000 in
set_option maxRecDepth 100000 in
theorem m_X7_countImpounded {X : Cx} {l : Launch} (h0 : Init X) {f : Nat → Nat} {k : Sk} (hO : Ok k)   : PM X l yX7_countImpounded cX7_countImpounded 1 (some .int) 1 24 [.ref (f 3)] (va_P X.D vwCl (skW X f k)) (.int (nI (k.2 2) - nI (cN (fun z => decide (k.1 18 z = -4)) (k.2 2)))) := by
  refine Met.mk (Bh := va_P X.D vwCl (skW X f k)) (by decide) (Nat.le_of_ble_eq_true rfl) ?_
  intro p e s m below meth c ls hF hB hl
  have hl : lv_has ls 1 [(0, .ref (f 3))] := hl
  obtain ⟨hx, hb, hml, hr, hlk, hown, hG⟩ := id hF
  have hK := hG.K h0
  have hS : va_S noA s.heap s.heap [] := va_S.rf
  have hO1 := hO.1
  have hO2 := hO.2.1
  have hO3 := hO.2.2.1
  refine lv_aload_n hx hb dX7_countImpounded_0 rfl (lv_at hl 0 rfl) ?_
  refine g_get (ci := 6) (v := .int (nI (k.2 2))) h0 hF inX7 hB 3 rfl rfl 0 (by decide) wf_X7_27 rfl rfl dX7_countImpounded_1 ?_
  refine lv_aload_n hx hb dX7_countImpounded_4 rfl (lv_at hl 0 rfl) ?_
  refine g_get (ci := 6) (v := .ref (f 22)) h0 hF inX7 hB 3 rfl rfl 5 (by decide) wf_X7_24 rfl rfl dX7_countImpounded_5 ?_
  refine lv_aload_n hx hb dX7_countImpounded_8 rfl (lv_at hl 0 rfl) ?_
  refine g_get (ci := 6) (v := .int (nI (k.2 2))) h0 hF inX7 hB 3 rfl rfl 0 (by decide) wf_X7_27 rfl rfl dX7_countImpounded_9 ?_
  refine lv_bipush (v := (-4)) hx hb dX7_countImpounded_12 (by decide) ?_
  refine core_p (v := .int (nI (cN (fun z => decide (k.1 18 z = (-4))) (k.2 2)))) (grSN (n := 3) (As := [.ref (f 22), .int (nI (k.2 2)), .int (-4)]) (rest := [.int (nI (k.2 2))]) h0 hF (m_X9_countAlike h0 (a := f 22) (N := 8) (F := k.1 18) (k.2 2) (by omega) (by omega) (-4)) wmn_X7_35 wt_X9_countAlike wz_X9 wc_X9_countAlike ⟨by decide, by decide, by decide +kernel⟩ rfl ⟨Nat.le_of_ble_eq_true rfl, Nat.le_of_ble_eq_true rfl⟩ (hB.sub [22] rfl) hS noA_old ⟨Nat.zero_le _, Nat.zero_le _⟩ hl.1 rfl (Nat.le_of_ble_eq_true rfl) dX7_countImpounded_14) ?_
  refine lv_isub hx hb dX7_countImpounded_17 ?_
  exact pm_iret hF dX7_countImpounded_18 (by simp [])

set_option maxHeartbeats 4000000 in
set_option maxRecDepth 100000 in
theorem m_X7_impoundedSetOf {X : Cx} {l : Launch} (h0 : Init X) {f : Nat → Nat} {k : Sk} (hO : Ok k)  (g : Int32) : PM X l yX7_impoundedSetOf cX7_impoundedSetOf 4 (some .int) 1 21 [.ref (f 3), .int g] (va_P X.D vwCl (skW X f k)) (.int (nI (iN k g (k.2 2)))) := by
  refine Met.mk (Bh := va_P X.D vwCl (skW X f k)) (by decide) (Nat.le_of_ble_eq_true rfl) ?_
  intro p e s m below meth c ls hF hB hl
  have hl : lv_has ls 4 [(0, .ref (f 3)), (1, .int g)] := hl
  obtain ⟨hx, hb, hml, hr, hlk, hown, hG⟩ := id hF
  have hK := hG.K h0
  have hS : va_S noA s.heap s.heap [] := va_S.rf
  have hO1 := hO.1
  have hO2 := hO.2.1
  have hO3 := hO.2.2.1
  refine lv_iconst (v := 0) hx hb dX7_impoundedSetOf_0 (by decide) ?_
  refine lv_istore_n (lv' := [(2, .int 0), (0, .ref (f 3)), (1, .int g)]) hx hb dX7_impoundedSetOf_1 rfl hl (by decide) rfl (fun ls hl => ?_)
  refine lv_iconst (v := 0) hx hb dX7_impoundedSetOf_2 (by decide) ?_
  refine lv_istore_n (lv' := [(3, .int 0), (2, .int 0), (0, .ref (f 3)), (1, .int g)]) hx hb dX7_impoundedSetOf_3 rfl hl (by decide) rfl (fun ls hl => ?_)
  have key_4 : ∀ (nf j : Nat), j + nf = k.2 2 → ∀ (ls : Array Slot), lv_has ls 4 [(0, .ref (f 3)), (1, .int g), (2, .int (nI (iN k g j))), (3, .int (nI j))] → W p l e ({ frames := 1, cells := 0, slots := 0, locals := 21 } : Room) s m ([.ref (f 3), .int g] : List Value).toArray below meth c s.heap [] 0 0 (MQ below (qP (.int (nI (iN k g (k.2 2))))) ([.ref (f 3), .int g] : List Value).toArray s 0 0 noA) (F0 m 4 ls []) := by
    intro nf
    induction nf with
    | zero =>
      intro j hj ls hl
      have hj_e : j = k.2 2 := by omega
      refine lv_iload_n hx hb dX7_impoundedSetOf_4 rfl (lv_at hl 3 rfl) ?_
      refine lv_aload_n hx hb dX7_impoundedSetOf_5 rfl (lv_at hl 0 rfl) ?_
      refine g_get (ci := 6) (v := .int (nI (k.2 2))) h0 hF inX7 hB 3 rfl rfl 0 (by decide) wf_X7_27 rfl rfl dX7_impoundedSetOf_6 ?_
      refine lv_icmp_ge (tgt := 42) hx hb dX7_impoundedSetOf_9 (by decide) (fun c_9 => ?_) (fun c_9 => absurd (nI_le (a := k.2 2) (b := j) (by omega) (by omega)) c_9)
      have n_9 := Int32.not_lt.mpr c_9
      refine lv_iload_n hx hb dX7_impoundedSetOf_42 rfl (lv_at hl 2 rfl) ?_
      exact pm_iret hF dX7_impoundedSetOf_43 (by rw [hj_e])
    | succ nf ih_4 =>
      intro j hj ls hl
      have hj_l : j < k.2 2 := by omega
      refine lv_iload_n hx hb dX7_impoundedSetOf_4 rfl (lv_at hl 3 rfl) ?_
      refine lv_aload_n hx hb dX7_impoundedSetOf_5 rfl (lv_at hl 0 rfl) ?_
      refine g_get (ci := 6) (v := .int (nI (k.2 2))) h0 hF inX7 hB 3 rfl rfl 0 (by decide) wf_X7_27 rfl rfl dX7_impoundedSetOf_6 ?_
      refine lv_icmp_ge (tgt := 42) hx hb dX7_impoundedSetOf_9 (by decide) (fun c_9 => absurd c_9 (nI_ge (a := j) (b := k.2 2) (by omega) (by omega))) (fun c_9 => ?_)
      have n_9 := Int32.not_le.mp c_9
      refine lv_aload_n hx hb dX7_impoundedSetOf_12 rfl (lv_at hl 0 rfl) ?_
      refine g_get (ci := 6) (v := .ref (f 18)) h0 hF inX7 hB 3 rfl rfl 1 (by decide) wf_X7_9 rfl rfl dX7_impoundedSetOf_13 ?_
      refine lv_iload_n hx hb dX7_impoundedSetOf_16 rfl (lv_at hl 3 rfl) ?_
      refine g_iald hx hb hK hB 18 0 rfl rfl j (rfl) (by omega) (by decide) dX7_impoundedSetOf_17 ?_
      refine lv_iload_n hx hb dX7_impoundedSetOf_18 rfl (lv_at hl 1 rfl) ?_
      refine lv_icmp_ne (tgt := 36) hx hb dX7_impoundedSetOf_19 (by decide) (fun c_19 => ?_) (fun c_19 => ?_)
      · refine lv_iinc (v := nI (j + 1)) (lv' := [(3, .int (nI (j + 1))), (0, .ref (f 3)), (1, .int g), (2, .int (nI (iN k g j)))]) hx hb dX7_impoundedSetOf_36 hl (k := 3) rfl (nI_1 j) (by decide) rfl (fun ls hl => ?_)
        refine lv_goto (tgt := 4) hx hb dX7_impoundedSetOf_39 (by decide) ?_
        refine ih_4 (j + 1) (by omega) ls (lv_eqv (lv_sub (l' := [(0, .ref (f 3)), (1, .int g), (2, .int (nI (iN k g j))), (3, .int (nI (j + 1)))]) hl [1, 2, 3, 0] rfl) ?_)
        rw [show (nI (iN k g j)) = (nI (iN k g (j + 1))) from (congrArg nI (by rw [iN, if_neg (by simp [c_9, n_9, c_19])]))]
      · refine lv_aload_n hx hb dX7_impoundedSetOf_22 rfl (lv_at hl 0 rfl) ?_
        refine lv_iload_n hx hb dX7_impoundedSetOf_23 rfl (lv_at hl 3 rfl) ?_
        refine core_p (v := .int (bI (isImp k j))) (grV (n := 1) (As := [.int (nI j)]) (rest := []) h0 hF (m_X7_isImpounded h0 (f := f) (k := k) hO  (nI j) j rfl (by omega)) wm_X7_39 wo_X7_isImpounded ws_X7__X7_isImpounded wz_X7 wc_X7_isImpounded ⟨by decide, by decide, by decide +kernel⟩ rfl ⟨Nat.le_of_ble_eq_true rfl, Nat.le_of_ble_eq_true rfl⟩ (ci := 6) ⟨_, hB 3 _ rfl⟩ rfl hB hS noA_old ⟨Nat.zero_le _, Nat.zero_le _⟩ hl.1 rfl (Nat.le_of_ble_eq_true rfl) dX7_impoundedSetOf_24) ?_
        refine lv_if_eq (tgt := 36) hx hb dX7_impoundedSetOf_27 (by decide) (fun c_27 => ?_) (fun c_27 => ?_)
        · have n_27 := bI_0.mp c_27
          refine lv_iinc (v := nI (j + 1)) (lv' := [(3, .int (nI (j + 1))), (0, .ref (f 3)), (1, .int g), (2, .int (nI (iN k g j)))]) hx hb dX7_impoundedSetOf_36 hl (k := 3) rfl (nI_1 j) (by decide) rfl (fun ls hl => ?_)
          refine lv_goto (tgt := 4) hx hb dX7_impoundedSetOf_39 (by decide) ?_
          refine ih_4 (j + 1) (by omega) ls (lv_eqv (lv_sub (l' := [(0, .ref (f 3)), (1, .int g), (2, .int (nI (iN k g j))), (3, .int (nI (j + 1)))]) hl [1, 2, 3, 0] rfl) ?_)
          rw [show (nI (iN k g j)) = (nI (iN k g (j + 1))) from (congrArg nI (by rw [iN, if_neg (by simp [c_9, n_9, c_19, n_27])]))]
        · have n_27 := bI_n0.mp c_27
          refine lv_iload_n hx hb dX7_impoundedSetOf_30 rfl (lv_at hl 2 rfl) ?_
          refine lv_iconst (v := 1) hx hb dX7_impoundedSetOf_31 (by decide) ?_
          refine lv_iload_n hx hb dX7_impoundedSetOf_32 rfl (lv_at hl 3 rfl) ?_
          refine lv_ishl hx hb dX7_impoundedSetOf_33 ?_
          refine lv_ior hx hb dX7_impoundedSetOf_34 ?_
          refine lv_topE (y := nI (iN k g j + 2 ^ j)) (bit_add j (by omega) (iN k g j) (iN_lt k g j)) ?_
          refine lv_istore_n (lv' := [(2, .int (nI (iN k g j + 2 ^ j))), (0, .ref (f 3)), (1, .int g), (3, .int (nI j))]) hx hb dX7_impoundedSetOf_35 rfl hl (by decide) rfl (fun ls hl => ?_)
          refine lv_iinc (v := nI (j + 1)) (lv' := [(3, .int (nI (j + 1))), (2, .int (nI (iN k g j + 2 ^ j))), (0, .ref (f 3)), (1, .int g)]) hx hb dX7_impoundedSetOf_36 hl (k := 3) rfl (nI_1 j) (by decide) rfl (fun ls hl => ?_)
          refine lv_goto (tgt := 4) hx hb dX7_impoundedSetOf_39 (by decide) ?_
          refine ih_4 (j + 1) (by omega) ls (lv_eqv (lv_sub (l' := [(0, .ref (f 3)), (1, .int g), (2, .int (nI (iN k g j + 2 ^ j))), (3, .int (nI (j + 1)))]) hl [2, 3, 1, 0] rfl) ?_)
          rw [show (nI (iN k g j + 2 ^ j)) = (nI (iN k g (j + 1))) from (by rw [iN, if_pos (by simp [c_9, n_9, c_19, n_27])])]
  exact key_4 (k.2 2) 0 (by omega) ls (lv_sub hl [2, 3, 1, 0] rfl)

set_option maxHeartbeats 4000000 in
set_option maxRecDepth 100000 in
theorem m_X5_hasBoth {X : Cx} {l : Launch} (h0 : Init X) {f : Nat → Nat} {k : Sk} (hO : Ok k)  (x y : Int32) : PM X l yX5_hasBoth cX5_hasBoth 3 (some .boolean) 1 21 [.ref (f 0), .int x, .int y] (va_P X.D vwCl (skW X f k)) (.int (bI (hasB (k.2 1) x && hasB (k.2 0) y))) := by
  refine Met.mk (Bh := va_P X.D vwCl (skW X f k)) (by decide) (Nat.le_of_ble_eq_true rfl) ?_
  intro p e s m below meth c ls hF hB hl
  have hl : lv_has ls 3 [(0, .ref (f 0)), (1, .int x), (2, .int y)] := hl
  obtain ⟨hx, hb, hml, hr, hlk, hown, hG⟩ := id hF
  have hK := hG.K h0
  have hS : va_S noA s.heap s.heap [] := va_S.rf
  have hO1 := hO.1
  have hO2 := hO.2.1
  have hO3 := hO.2.2.1
  refine lv_aload_n hx hb dX5_hasBoth_0 rfl (lv_at hl 0 rfl) ?_
  refine g_get (ci := 4) (v := .ref (f 2)) h0 hF inX5 hB 0 rfl rfl 1 (by decide) wf_X5_21 rfl rfl dX5_hasBoth_1 ?_
  refine lv_iload_n hx hb dX5_hasBoth_4 rfl (lv_at hl 1 rfl) ?_
  refine core_p (v := .int (bI (hasB (k.2 1) x))) (grV (n := 1) (As := [.int x]) (rest := []) h0 hF (m_X4_has h0 (f := f) (k := k) hO  x) wm_X5_54 wo_X4_has ws_X4__X4_has wz_X4 wc_X4_has ⟨by decide, by decide, by decide +kernel⟩ rfl ⟨Nat.le_of_ble_eq_true rfl, Nat.le_of_ble_eq_true rfl⟩ (ci := 3) ⟨_, hB 2 _ rfl⟩ rfl hB hS noA_old ⟨Nat.zero_le _, Nat.zero_le _⟩ hl.1 rfl (Nat.le_of_ble_eq_true rfl) dX5_hasBoth_5) ?_
  refine lv_if_eq (tgt := 26) hx hb dX5_hasBoth_8 (by decide) (fun c_8 => ?_) (fun c_8 => ?_)
  · have n_8 := bI_0.mp c_8
    refine lv_iconst (v := 0) hx hb dX5_hasBoth_26 (by decide) ?_
    exact pm_zret hF dX5_hasBoth_27 rfl (by simp [bI, n_8])
  · have n_8 := bI_n0.mp c_8
    refine lv_aload_n hx hb dX5_hasBoth_11 rfl (lv_at hl 0 rfl) ?_
    refine g_get (ci := 4) (v := .ref (f 1)) h0 hF inX5 hB 0 rfl rfl 0 (by decide) wf_X5_12 rfl rfl dX5_hasBoth_12 ?_
    refine lv_iload_n hx hb dX5_hasBoth_15 rfl (lv_at hl 2 rfl) ?_
    refine core_p (v := .int (bI (hasB (k.2 0) y))) (grV (n := 1) (As := [.int y]) (rest := []) h0 hF (m_X6_has h0 (f := f) (k := k) hO  y) wm_X5_58 wo_X6_has ws_X6__X6_has wz_X6 wc_X6_has ⟨by decide, by decide, by decide +kernel⟩ rfl ⟨Nat.le_of_ble_eq_true rfl, Nat.le_of_ble_eq_true rfl⟩ (ci := 5) ⟨_, hB 1 _ rfl⟩ rfl hB hS noA_old ⟨Nat.zero_le _, Nat.zero_le _⟩ hl.1 rfl (Nat.le_of_ble_eq_true rfl) dX5_hasBoth_16) ?_
    refine lv_if_eq (tgt := 26) hx hb dX5_hasBoth_19 (by decide) (fun c_19 => ?_) (fun c_19 => ?_)
    · have n_19 := bI_0.mp c_19
      refine lv_iconst (v := 0) hx hb dX5_hasBoth_26 (by decide) ?_
      exact pm_zret hF dX5_hasBoth_27 rfl (by simp [bI, n_8, n_19])
    · have n_19 := bI_n0.mp c_19
      refine lv_iconst (v := 1) hx hb dX5_hasBoth_22 (by decide) ?_
      refine lv_goto (tgt := 27) hx hb dX5_hasBoth_23 (by decide) ?_
      exact pm_zret hF dX5_hasBoth_27 rfl (by simp [bI, n_8, n_19])

set_option maxHeartbeats 4000000 in
set_option maxRecDepth 100000 in
theorem m_X5_levyOn {X : Cx} {l : Launch} (h0 : Init X) {f : Nat → Nat} {k : Sk} (hO : Ok k)  (r : Int32) (x : Int32) (i : Nat) (hxi : x = nI i) (hi : i < k.2 0) : PM X l yX5_levyOn cX5_levyOn 4 (some .int) 1 21 [.ref (f 0), .int r, .int x] (va_P X.D vwCl (skW X f k)) (.int (levI k r i)) := by
  subst hxi
  refine Met.mk (Bh := va_P X.D vwCl (skW X f k)) (by decide) (Nat.le_of_ble_eq_true rfl) ?_
  intro p e s m below meth c ls hF hB hl
  have hl : lv_has ls 4 [(0, .ref (f 0)), (1, .int r), (2, .int (nI i))] := hl
  obtain ⟨hx, hb, hml, hr, hlk, hown, hG⟩ := id hF
  have hK := hG.K h0
  have hS : va_S noA s.heap s.heap [] := va_S.rf
  have hO1 := hO.1
  have hO2 := hO.2.1
  have hO3 := hO.2.2.1
  refine lv_aload_n hx hb dX5_levyOn_0 rfl (lv_at hl 0 rfl) ?_
  refine g_get (ci := 4) (v := .ref (f 1)) h0 hF inX5 hB 0 rfl rfl 0 (by decide) wf_X5_12 rfl rfl dX5_levyOn_1 ?_
  refine lv_iload_n hx hb dX5_levyOn_4 rfl (lv_at hl 2 rfl) ?_
  refine core_p (v := .int (bI (isSeen k i))) (grV (n := 1) (As := [.int (nI i)]) (rest := []) h0 hF (m_X6_isSeen h0 (f := f) (k := k) hO  (nI i) i rfl (by omega)) wm_X5_101 wo_X6_isSeen ws_X6__X6_isSeen wz_X6 wc_X6_isSeen ⟨by decide, by decide, by decide +kernel⟩ rfl ⟨Nat.le_of_ble_eq_true rfl, Nat.le_of_ble_eq_true rfl⟩ (ci := 5) ⟨_, hB 1 _ rfl⟩ rfl hB hS noA_old ⟨Nat.zero_le _, Nat.zero_le _⟩ hl.1 rfl (Nat.le_of_ble_eq_true rfl) dX5_levyOn_5) ?_
  refine lv_if_eq (tgt := 24) hx hb dX5_levyOn_8 (by decide) (fun c_8 => ?_) (fun c_8 => ?_)
  · have n_8 := bI_0.mp c_8
    refine lv_iconst (v := 1) hx hb dX5_levyOn_24 (by decide) ?_
    refine lv_goto (tgt := 29) hx hb dX5_levyOn_25 (by decide) ?_
    refine lv_istore_n (lv' := [(3, .int 1), (0, .ref (f 0)), (1, .int r), (2, .int (nI i))]) hx hb dX5_levyOn_29 rfl hl (by decide) rfl (fun ls hl => ?_)
    refine lv_iload_n hx hb dX5_levyOn_30 rfl (lv_at hl 0 rfl) ?_
    refine lv_if_eq (tgt := 38) hx hb dX5_levyOn_31 (by decide) (fun c_31 => absurd c_31 (by decide)) (fun c_31 => ?_)
    refine lv_iconst (v := 0) hx hb dX5_levyOn_34 (by decide) ?_
    refine lv_goto (tgt := 47) hx hb dX5_levyOn_35 (by decide) ?_
    exact pm_iret hF dX5_levyOn_47 (by simp [levI, n_8])
  · have n_8 := bI_n0.mp c_8
    refine lv_aload_n hx hb dX5_levyOn_11 rfl (lv_at hl 0 rfl) ?_
    refine g_get (ci := 4) (v := .ref (f 1)) h0 hF inX5 hB 0 rfl rfl 0 (by decide) wf_X5_12 rfl rfl dX5_levyOn_12 ?_
    refine g_get (ci := 5) (v := .ref (f 6)) h0 hF inX6 hB 1 rfl rfl 3 (by decide) wf_X5_110 rfl rfl dX5_levyOn_15 ?_
    refine lv_iload_n hx hb dX5_levyOn_18 rfl (lv_at hl 2 rfl) ?_
    refine g_iald hx hb hK hB 6 0 rfl rfl i (rfl) (by omega) (by decide) dX5_levyOn_19 ?_
    refine lv_iload_n hx hb dX5_levyOn_20 rfl (lv_at hl 1 rfl) ?_
    refine lv_icmp_ne (tgt := 28) hx hb dX5_levyOn_21 (by decide) (fun c_21 => ?_) (fun c_21 => ?_)
    · refine lv_iconst (v := 0) hx hb dX5_levyOn_28 (by decide) ?_
      refine lv_istore_n (lv' := [(3, .int 0), (0, .ref (f 0)), (1, .int r), (2, .int (nI i))]) hx hb dX5_levyOn_29 rfl hl (by decide) rfl (fun ls hl => ?_)
      refine lv_iload_n hx hb dX5_levyOn_30 rfl (lv_at hl 0 rfl) ?_
      refine lv_if_eq (tgt := 38) hx hb dX5_levyOn_31 (by decide) (fun c_31 => ?_) (fun c_31 => absurd c_31 (by decide))
      refine lv_aload_n hx hb dX5_levyOn_38 rfl (lv_at hl 1 rfl) ?_
      refine g_get (ci := 4) (v := .ref (f 1)) h0 hF inX5 hB 0 rfl rfl 0 (by decide) wf_X5_12 rfl rfl dX5_levyOn_39 ?_
      refine g_get (ci := 5) (v := .ref (f 4)) h0 hF inX6 hB 1 rfl rfl 1 (by decide) wf_X5_117 rfl rfl dX5_levyOn_42 ?_
      refine lv_iload_n hx hb dX5_levyOn_45 rfl (lv_at hl 3 rfl) ?_
      refine g_iald hx hb hK hB 4 0 rfl rfl i (rfl) (by omega) (by decide) dX5_levyOn_46 ?_
      exact pm_iret hF dX5_levyOn_47 (by simp [levI, n_8, c_21])
    · refine lv_iconst (v := 1) hx hb dX5_levyOn_24 (by decide) ?_
      refine lv_goto (tgt := 29) hx hb dX5_levyOn_25 (by decide) ?_
      refine lv_istore_n (lv' := [(3, .int 1), (0, .ref (f 0)), (1, .int r), (2, .int (nI i))]) hx hb dX5_levyOn_29 rfl hl (by decide) rfl (fun ls hl => ?_)
      refine lv_iload_n hx hb dX5_levyOn_30 rfl (lv_at hl 0 rfl) ?_
      refine lv_if_eq (tgt := 38) hx hb dX5_levyOn_31 (by decide) (fun c_31 => absurd c_31 (by decide)) (fun c_31 => ?_)
      refine lv_iconst (v := 0) hx hb dX5_levyOn_34 (by decide) ?_
      refine lv_goto (tgt := 47) hx hb dX5_levyOn_35 (by decide) ?_
      exact pm_iret hF dX5_levyOn_47 (by simp [levI, n_8, c_21])

set_option maxHeartbeats 4000000 in
set_option maxRecDepth 100000 in
theorem m_X5_costToRedeem {X : Cx} {l : Launch} (h0 : Init X) {f : Nat → Nat} {k : Sk} (hO : Ok k)  (x : Int32) (w : Nat) (hxw : x = nI w) (hw : w < k.2 2) : PM X l yX5_costToRedeem cX5_costToRedeem 2 (some .int) 0 0 [.ref (f 0), .int x] (va_P X.D vwCl (skW X f k)) (.int (cost k w)) := by
  subst hxw
  refine Met.mk (Bh := va_P X.D vwCl (skW X f k)) (by decide) (Nat.le_of_ble_eq_true rfl) ?_
  intro p e s m below meth c ls hF hB hl
  have hl : lv_has ls 2 [(0, .ref (f 0)), (1, .int (nI w))] := hl
  obtain ⟨hx, hb, hml, hr, hlk, hown, hG⟩ := id hF
  have hK := hG.K h0
  have hS : va_S noA s.heap s.heap [] := va_S.rf
  have hO1 := hO.1
  have hO2 := hO.2.1
  have hO3 := hO.2.2.1
  refine lv_aload_n hx hb dX5_costToRedeem_0 rfl (lv_at hl 0 rfl) ?_
  refine g_get (ci := 4) (v := .ref (f 1)) h0 hF inX5 hB 0 rfl rfl 0 (by decide) wf_X5_12 rfl rfl dX5_costToRedeem_1 ?_
  refine g_get (ci := 5) (v := .ref (f 4)) h0 hF inX6 hB 1 rfl rfl 1 (by decide) wf_X5_117 rfl rfl dX5_costToRedeem_4 ?_
  refine lv_aload_n hx hb dX5_costToRedeem_7 rfl (lv_at hl 0 rfl) ?_
  refine g_get (ci := 4) (v := .ref (f 3)) h0 hF inX5 hB 0 rfl rfl 2 (by decide) wf_X5_28 rfl rfl dX5_costToRedeem_8 ?_
  refine g_get (ci := 6) (v := .ref (f 19)) h0 hF inX7 hB 3 rfl rfl 2 (by decide) wf_X5_142 rfl rfl dX5_costToRedeem_11 ?_
  refine lv_iload_n hx hb dX5_costToRedeem_14 rfl (lv_at hl 1 rfl) ?_
  refine g_iald hx hb hK hB 19 0 rfl rfl w (rfl) (by omega) (by decide) dX5_costToRedeem_15 ?_
  refine g_iald hx hb hK hB 4 0 rfl rfl (wS k w) ((hO.2.2.2.2.2 w hw).1) (Nat.lt_of_lt_of_le (hO.2.2.2.2.2 w hw).2 hO1) (by decide) dX5_costToRedeem_16 ?_
  refine lv_aload_n hx hb dX5_costToRedeem_17 rfl (lv_at hl 0 rfl) ?_
  refine g_get (ci := 4) (v := .ref (f 3)) h0 hF inX5 hB 0 rfl rfl 2 (by decide) wf_X5_28 rfl rfl dX5_costToRedeem_18 ?_
  refine g_get (ci := 6) (v := .ref (f 22)) h0 hF inX7 hB 3 rfl rfl 5 (by decide) wf_X5_145 rfl rfl dX5_costToRedeem_21 ?_
  refine lv_iload_n hx hb dX5_costToRedeem_24 rfl (lv_at hl 1 rfl) ?_
  refine g_iald hx hb hK hB 22 0 rfl rfl w (rfl) (by omega) (by decide) dX5_costToRedeem_25 ?_
  refine lv_iadd hx hb dX5_costToRedeem_26 ?_
  exact pm_iret hF dX5_costToRedeem_27 (rfl)

set_option maxHeartbeats 4000000 in
set_option maxRecDepth 100000 in
theorem m_X5_isGrantable {X : Cx} {l : Launch} (h0 : Init X) {f : Nat → Nat} {k : Sk} (hO : Ok k)  (x : Int32) (w : Nat) (hxw : x = nI w) (hw : w < k.2 2) : PM X l yX5_isGrantable cX5_isGrantable 2 (some .boolean) 1 21 [.ref (f 0), .int x] (va_P X.D vwCl (skW X f k)) (.int (bI (grB k w))) := by
  subst hxw
  refine Met.mk (Bh := va_P X.D vwCl (skW X f k)) (by decide) (Nat.le_of_ble_eq_true rfl) ?_
  intro p e s m below meth c ls hF hB hl
  have hl : lv_has ls 2 [(0, .ref (f 0)), (1, .int (nI w))] := hl
  obtain ⟨hx, hb, hml, hr, hlk, hown, hG⟩ := id hF
  have hK := hG.K h0
  have hS : va_S noA s.heap s.heap [] := va_S.rf
  have hO1 := hO.1
  have hO2 := hO.2.1
  have hO3 := hO.2.2.1
  refine lv_aload_n hx hb dX5_isGrantable_0 rfl (lv_at hl 0 rfl) ?_
  refine g_get (ci := 4) (v := .ref (f 3)) h0 hF inX5 hB 0 rfl rfl 2 (by decide) wf_X5_28 rfl rfl dX5_isGrantable_1 ?_
  refine lv_iload_n hx hb dX5_isGrantable_4 rfl (lv_at hl 1 rfl) ?_
  refine core_p (v := .int (bI (isImp k w))) (grV (n := 1) (As := [.int (nI w)]) (rest := []) h0 hF (m_X7_isImpounded h0 (f := f) (k := k) hO  (nI w) w rfl (by omega)) wm_X5_149 wo_X7_isImpounded ws_X7__X7_isImpounded wz_X7 wc_X7_isImpounded ⟨by decide, by decide, by decide +kernel⟩ rfl ⟨Nat.le_of_ble_eq_true rfl, Nat.le_of_ble_eq_true rfl⟩ (ci := 6) ⟨_, hB 3 _ rfl⟩ rfl hB hS noA_old ⟨Nat.zero_le _, Nat.zero_le _⟩ hl.1 rfl (Nat.le_of_ble_eq_true rfl) dX5_isGrantable_5) ?_
  refine lv_if_ne (tgt := 34) hx hb dX5_isGrantable_8 (by decide) (fun c_8 => ?_) (fun c_8 => ?_)
  · have n_8 := bI_n0.mp c_8
    refine lv_iconst (v := 0) hx hb dX5_isGrantable_34 (by decide) ?_
    exact pm_zret hF dX5_isGrantable_35 rfl (by simp [bI, grB, n_8])
  · have n_8 := bI_0.mp c_8
    refine lv_aload_n hx hb dX5_isGrantable_11 rfl (lv_at hl 0 rfl) ?_
    refine g_get (ci := 4) (v := .ref (f 1)) h0 hF inX5 hB 0 rfl rfl 0 (by decide) wf_X5_12 rfl rfl dX5_isGrantable_12 ?_
    refine lv_aload_n hx hb dX5_isGrantable_15 rfl (lv_at hl 0 rfl) ?_
    refine g_get (ci := 4) (v := .ref (f 3)) h0 hF inX5 hB 0 rfl rfl 2 (by decide) wf_X5_28 rfl rfl dX5_isGrantable_16 ?_
    refine g_get (ci := 6) (v := .ref (f 19)) h0 hF inX7 hB 3 rfl rfl 2 (by decide) wf_X5_142 rfl rfl dX5_isGrantable_19 ?_
    refine lv_iload_n hx hb dX5_isGrantable_22 rfl (lv_at hl 1 rfl) ?_
    refine g_iald hx hb hK hB 19 0 rfl rfl w (rfl) (by omega) (by decide) dX5_isGrantable_23 ?_
    refine core_p (v := .int (bI (isSeen k (wS k w)))) (grV (n := 1) (As := [.int (k.1 15 w)]) (rest := []) h0 hF (m_X6_isSeen h0 (f := f) (k := k) hO  (k.1 15 w) (wS k w) (hO.2.2.2.2.2 w hw).1 (hO.2.2.2.2.2 w hw).2) wm_X5_101 wo_X6_isSeen ws_X6__X6_isSeen wz_X6 wc_X6_isSeen ⟨by decide, by decide, by decide +kernel⟩ rfl ⟨Nat.le_of_ble_eq_true rfl, Nat.le_of_ble_eq_true rfl⟩ (ci := 5) ⟨_, hB 1 _ rfl⟩ rfl hB hS noA_old ⟨Nat.zero_le _, Nat.zero_le _⟩ hl.1 rfl (Nat.le_of_ble_eq_true rfl) dX5_isGrantable_24) ?_
    refine lv_if_eq (tgt := 34) hx hb dX5_isGrantable_27 (by decide) (fun c_27 => ?_) (fun c_27 => ?_)
    · have n_27 := bI_0.mp c_27
      refine lv_iconst (v := 0) hx hb dX5_isGrantable_34 (by decide) ?_
      exact pm_zret hF dX5_isGrantable_35 rfl (by simp [bI, grB, n_8, n_27])
    · have n_27 := bI_n0.mp c_27
      refine lv_iconst (v := 1) hx hb dX5_isGrantable_30 (by decide) ?_
      refine lv_goto (tgt := 35) hx hb dX5_isGrantable_31 (by decide) ?_
      exact pm_zret hF dX5_isGrantable_35 rfl (by simp [bI, grB, n_8, n_27])

set_option maxHeartbeats 4000000 in
set_option maxRecDepth 100000 in
theorem m_X5_countGrantable {X : Cx} {l : Launch} (h0 : Init X) {f : Nat → Nat} {k : Sk} (hO : Ok k)   : PM X l yX5_countGrantable cX5_countGrantable 3 (some .int) 2 42 [.ref (f 0)] (va_P X.D vwCl (skW X f k)) (.int (nI (cN (fun z => grB k z) (k.2 2)))) := by
  refine Met.mk (Bh := va_P X.D vwCl (skW X f k)) (by decide) (Nat.le_of_ble_eq_true rfl) ?_
  intro p e s m below meth c ls hF hB hl
  have hl : lv_has ls 3 [(0, .ref (f 0))] := hl
  obtain ⟨hx, hb, hml, hr, hlk, hown, hG⟩ := id hF
  have hK := hG.K h0
  have hS : va_S noA s.heap s.heap [] := va_S.rf
  have hO1 := hO.1
  have hO2 := hO.2.1
  have hO3 := hO.2.2.1
  refine lv_iconst (v := 0) hx hb dX5_countGrantable_0 (by decide) ?_
  refine lv_istore_n (lv' := [(1, .int 0), (0, .ref (f 0))]) hx hb dX5_countGrantable_1 rfl hl (by decide) rfl (fun ls hl => ?_)
  refine lv_iconst (v := 0) hx hb dX5_countGrantable_2 (by decide) ?_
  refine lv_istore_n (lv' := [(2, .int 0), (1, .int 0), (0, .ref (f 0))]) hx hb dX5_countGrantable_3 rfl hl (by decide) rfl (fun ls hl => ?_)
  have key_4 : ∀ (nf j : Nat), j + nf = k.2 2 → ∀ (ls : Array Slot), lv_has ls 3 [(0, .ref (f 0)), (1, .int (nI (cN (fun z => grB k z) j))), (2, .int (nI j))] → W p l e ({ frames := 2, cells := 0, slots := 0, locals := 42 } : Room) s m ([.ref (f 0)] : List Value).toArray below meth c s.heap [] 0 0 (MQ below (qP (.int (nI (cN (fun z => grB k z) (k.2 2))))) ([.ref (f 0)] : List Value).toArray s 0 0 noA) (F0 m 4 ls []) := by
    intro nf
    induction nf with
    | zero =>
      intro j hj ls hl
      have hj_e : j = k.2 2 := by omega
      refine lv_iload_n hx hb dX5_countGrantable_4 rfl (lv_at hl 2 rfl) ?_
      refine lv_aload_n hx hb dX5_countGrantable_5 rfl (lv_at hl 0 rfl) ?_
      refine g_get (ci := 4) (v := .ref (f 3)) h0 hF inX5 hB 0 rfl rfl 2 (by decide) wf_X5_28 rfl rfl dX5_countGrantable_6 ?_
      refine g_get (ci := 6) (v := .int (nI (k.2 2))) h0 hF inX7 hB 3 rfl rfl 0 (by decide) wf_X5_123 rfl rfl dX5_countGrantable_9 ?_
      refine lv_icmp_ge (tgt := 32) hx hb dX5_countGrantable_12 (by decide) (fun c_12 => ?_) (fun c_12 => absurd (nI_le (a := k.2 2) (b := j) (by omega) (by omega)) c_12)
      have n_12 := Int32.not_lt.mpr c_12
      refine lv_iload_n hx hb dX5_countGrantable_32 rfl (lv_at hl 1 rfl) ?_
      exact pm_iret hF dX5_countGrantable_33 (by rw [hj_e])
    | succ nf ih_4 =>
      intro j hj ls hl
      have hj_l : j < k.2 2 := by omega
      refine lv_iload_n hx hb dX5_countGrantable_4 rfl (lv_at hl 2 rfl) ?_
      refine lv_aload_n hx hb dX5_countGrantable_5 rfl (lv_at hl 0 rfl) ?_
      refine g_get (ci := 4) (v := .ref (f 3)) h0 hF inX5 hB 0 rfl rfl 2 (by decide) wf_X5_28 rfl rfl dX5_countGrantable_6 ?_
      refine g_get (ci := 6) (v := .int (nI (k.2 2))) h0 hF inX7 hB 3 rfl rfl 0 (by decide) wf_X5_123 rfl rfl dX5_countGrantable_9 ?_
      refine lv_icmp_ge (tgt := 32) hx hb dX5_countGrantable_12 (by decide) (fun c_12 => absurd c_12 (nI_ge (a := j) (b := k.2 2) (by omega) (by omega))) (fun c_12 => ?_)
      have n_12 := Int32.not_le.mp c_12
      refine lv_aload_n hx hb dX5_countGrantable_15 rfl (lv_at hl 0 rfl) ?_
      refine lv_iload_n hx hb dX5_countGrantable_16 rfl (lv_at hl 2 rfl) ?_
      refine core_p (v := .int (bI (grB k j))) (grV (n := 1) (As := [.int (nI j)]) (rest := []) h0 hF (m_X5_isGrantable h0 (f := f) (k := k) hO  (nI j) j rfl (by omega)) wm_X5_178 wo_X5_isGrantable ws_X5__X5_isGrantable wz_X5 wc_X5_isGrantable ⟨by decide, by decide, by decide +kernel⟩ rfl ⟨Nat.le_of_ble_eq_true rfl, Nat.le_of_ble_eq_true rfl⟩ (ci := 4) ⟨_, hB 0 _ rfl⟩ rfl hB hS noA_old ⟨Nat.zero_le _, Nat.zero_le _⟩ hl.1 rfl (Nat.le_of_ble_eq_true rfl) dX5_countGrantable_17) ?_
      refine lv_if_eq (tgt := 26) hx hb dX5_countGrantable_20 (by decide) (fun c_20 => ?_) (fun c_20 => ?_)
      · have n_20 := bI_0.mp c_20
        refine lv_iinc (v := nI (j + 1)) (lv' := [(2, .int (nI (j + 1))), (0, .ref (f 0)), (1, .int (nI (cN (fun z => grB k z) j)))]) hx hb dX5_countGrantable_26 hl (k := 2) rfl (nI_1 j) (by decide) rfl (fun ls hl => ?_)
        refine lv_goto (tgt := 4) hx hb dX5_countGrantable_29 (by decide) ?_
        refine ih_4 (j + 1) (by omega) ls (lv_eqv (lv_sub (l' := [(0, .ref (f 0)), (1, .int (nI (cN (fun z => grB k z) j))), (2, .int (nI (j + 1)))]) hl [1, 2, 0] rfl) ?_)
        rw [show (nI (cN (fun z => grB k z) j)) = (nI (cN (fun z => grB k z) (j + 1))) from (congrArg nI (cN_f (by simp [c_12, n_12, n_20])).symm)]
      · have n_20 := bI_n0.mp c_20
        refine lv_iinc (v := nI ((cN (fun z => grB k z) j) + 1)) (lv' := [(1, .int (nI ((cN (fun z => grB k z) j) + 1))), (0, .ref (f 0)), (2, .int (nI j))]) hx hb dX5_countGrantable_23 hl (k := 1) rfl (nI_1 (cN (fun z => grB k z) j)) (by decide) rfl (fun ls hl => ?_)
        refine lv_iinc (v := nI (j + 1)) (lv' := [(2, .int (nI (j + 1))), (1, .int (nI ((cN (fun z => grB k z) j) + 1))), (0, .ref (f 0))]) hx hb dX5_countGrantable_26 hl (k := 2) rfl (nI_1 j) (by decide) rfl (fun ls hl => ?_)
        refine lv_goto (tgt := 4) hx hb dX5_countGrantable_29 (by decide) ?_
        refine ih_4 (j + 1) (by omega) ls (lv_eqv (lv_sub (l' := [(0, .ref (f 0)), (1, .int (nI ((cN (fun z => grB k z) j) + 1))), (2, .int (nI (j + 1)))]) hl [2, 1, 0] rfl) ?_)
        rw [show (nI ((cN (fun z => grB k z) j) + 1)) = (nI (cN (fun z => grB k z) (j + 1))) from (congrArg nI (cN_t (by simp [c_12, n_12, n_20])).symm)]
  exact key_4 (k.2 2) 0 (by omega) ls (lv_sub hl [2, 1, 0] rfl)

set_option maxHeartbeats 4000000 in
set_option maxRecDepth 100000 in
theorem m_X5_cheapestWish {X : Cx} {l : Launch} (h0 : Init X) {f : Nat → Nat} {k : Sk} (hO : Ok k)  (set : Int32) : PM X l yX5_cheapestWish cX5_cheapestWish 4 (some .int) 1 21 [.ref (f 0), .int set] (va_P X.D vwCl (skW X f k)) (.int (cwR k set (k.2 2))) := by
  refine Met.mk (Bh := va_P X.D vwCl (skW X f k)) (by decide) (Nat.le_of_ble_eq_true rfl) ?_
  intro p e s m below meth c ls hF hB hl
  have hl : lv_has ls 4 [(0, .ref (f 0)), (1, .int set)] := hl
  obtain ⟨hx, hb, hml, hr, hlk, hown, hG⟩ := id hF
  have hK := hG.K h0
  have hS : va_S noA s.heap s.heap [] := va_S.rf
  have hO1 := hO.1
  have hO2 := hO.2.1
  have hO3 := hO.2.2.1
  refine lv_bipush (v := (-4)) hx hb dX5_cheapestWish_0 (by decide) ?_
  refine lv_istore_n (lv' := [(2, .int (-4)), (0, .ref (f 0)), (1, .int set)]) hx hb dX5_cheapestWish_2 rfl hl (by decide) rfl (fun ls hl => ?_)
  refine lv_iconst (v := 0) hx hb dX5_cheapestWish_3 (by decide) ?_
  refine lv_istore_n (lv' := [(3, .int 0), (2, .int (-4)), (0, .ref (f 0)), (1, .int set)]) hx hb dX5_cheapestWish_4 rfl hl (by decide) rfl (fun ls hl => ?_)
  have key_5 : ∀ (nf j : Nat), j + nf = k.2 2 → ∀ (ls : Array Slot), lv_has ls 4 [(0, .ref (f 0)), (1, .int set), (2, .int (cwR k set j)), (3, .int (nI j))] → W p l e ({ frames := 1, cells := 0, slots := 0, locals := 21 } : Room) s m ([.ref (f 0), .int set] : List Value).toArray below meth c s.heap [] 0 0 (MQ below (qP (.int (cwR k set (k.2 2)))) ([.ref (f 0), .int set] : List Value).toArray s 0 0 noA) (F0 m 5 ls []) := by
    intro nf
    induction nf with
    | zero =>
      intro j hj ls hl
      have hj_e : j = k.2 2 := by omega
      refine lv_iload_n hx hb dX5_cheapestWish_5 rfl (lv_at hl 3 rfl) ?_
      refine lv_aload_n hx hb dX5_cheapestWish_6 rfl (lv_at hl 0 rfl) ?_
      refine g_get (ci := 4) (v := .ref (f 3)) h0 hF inX5 hB 0 rfl rfl 2 (by decide) wf_X5_28 rfl rfl dX5_cheapestWish_7 ?_
      refine g_get (ci := 6) (v := .int (nI (k.2 2))) h0 hF inX7 hB 3 rfl rfl 0 (by decide) wf_X5_123 rfl rfl dX5_cheapestWish_10 ?_
      refine lv_icmp_ge (tgt := 51) hx hb dX5_cheapestWish_13 (by decide) (fun c_13 => ?_) (fun c_13 => absurd (nI_le (a := k.2 2) (b := j) (by omega) (by omega)) c_13)
      have n_13 := Int32.not_lt.mpr c_13
      refine lv_iload_n hx hb dX5_cheapestWish_51 rfl (lv_at hl 2 rfl) ?_
      exact pm_iret hF dX5_cheapestWish_52 (by rw [hj_e])
    | succ nf ih_5 =>
      intro j hj ls hl
      have hj_l : j < k.2 2 := by omega
      refine lv_iload_n hx hb dX5_cheapestWish_5 rfl (lv_at hl 3 rfl) ?_
      refine lv_aload_n hx hb dX5_cheapestWish_6 rfl (lv_at hl 0 rfl) ?_
      refine g_get (ci := 4) (v := .ref (f 3)) h0 hF inX5 hB 0 rfl rfl 2 (by decide) wf_X5_28 rfl rfl dX5_cheapestWish_7 ?_
      refine g_get (ci := 6) (v := .int (nI (k.2 2))) h0 hF inX7 hB 3 rfl rfl 0 (by decide) wf_X5_123 rfl rfl dX5_cheapestWish_10 ?_
      refine lv_icmp_ge (tgt := 51) hx hb dX5_cheapestWish_13 (by decide) (fun c_13 => absurd c_13 (nI_ge (a := j) (b := k.2 2) (by omega) (by omega))) (fun c_13 => ?_)
      have n_13 := Int32.not_le.mp c_13
      refine lv_iload_n hx hb dX5_cheapestWish_16 rfl (lv_at hl 1 rfl) ?_
      refine lv_iconst (v := 1) hx hb dX5_cheapestWish_17 (by decide) ?_
      refine lv_iload_n hx hb dX5_cheapestWish_18 rfl (lv_at hl 3 rfl) ?_
      refine lv_ishl hx hb dX5_cheapestWish_19 ?_
      refine lv_iand hx hb dX5_cheapestWish_20 ?_
      refine lv_if_eq (tgt := 45) hx hb dX5_cheapestWish_21 (by decide) (fun c_21 => ?_) (fun c_21 => ?_)
      · refine lv_iinc (v := nI (j + 1)) (lv' := [(3, .int (nI (j + 1))), (0, .ref (f 0)), (1, .int set), (2, .int (cwR k set j))]) hx hb dX5_cheapestWish_45 hl (k := 3) rfl (nI_1 j) (by decide) rfl (fun ls hl => ?_)
        refine lv_goto (tgt := 5) hx hb dX5_cheapestWish_48 (by decide) ?_
        refine ih_5 (j + 1) (by omega) ls (lv_eqv (lv_sub (l' := [(0, .ref (f 0)), (1, .int set), (2, .int (cwR k set j)), (3, .int (nI (j + 1)))]) hl [1, 2, 3, 0] rfl) ?_)
        rw [show (cwR k set j) = (cwR k set (j + 1)) from (by rw [cwR]; simp only [bitI, c_13, n_13, c_21, if_true, if_false, not_true, not_false_eq_true, ite_self])]
      · refine lv_iload_n hx hb dX5_cheapestWish_24 rfl (lv_at hl 2 rfl) ?_
        refine lv_bipush (v := (-4)) hx hb dX5_cheapestWish_25 (by decide) ?_
        refine lv_icmp_eq (tgt := 43) hx hb dX5_cheapestWish_27 (by decide) (fun c_27 => ?_) (fun c_27 => ?_)
        · refine lv_iload_n hx hb dX5_cheapestWish_43 rfl (lv_at hl 3 rfl) ?_
          refine lv_istore_n (lv' := [(2, .int (nI j)), (0, .ref (f 0)), (1, .int set), (3, .int (nI j))]) hx hb dX5_cheapestWish_44 rfl hl (by decide) rfl (fun ls hl => ?_)
          refine lv_iinc (v := nI (j + 1)) (lv' := [(3, .int (nI (j + 1))), (2, .int (nI j)), (0, .ref (f 0)), (1, .int set)]) hx hb dX5_cheapestWish_45 hl (k := 3) rfl (nI_1 j) (by decide) rfl (fun ls hl => ?_)
          refine lv_goto (tgt := 5) hx hb dX5_cheapestWish_48 (by decide) ?_
          refine ih_5 (j + 1) (by omega) ls (lv_eqv (lv_sub (l' := [(0, .ref (f 0)), (1, .int set), (2, .int (nI j)), (3, .int (nI (j + 1)))]) hl [2, 3, 1, 0] rfl) ?_)
          rw [show (nI j) = (cwR k set (j + 1)) from (by rw [cwR]; simp only [bitI, c_13, n_13, c_21, c_27, if_true, if_false, not_true, not_false_eq_true, ite_self])]
        · refine lv_aload_n hx hb dX5_cheapestWish_30 rfl (lv_at hl 0 rfl) ?_
          refine lv_iload_n hx hb dX5_cheapestWish_31 rfl (lv_at hl 3 rfl) ?_
          refine core_p (v := .int (cost k j)) (grV (n := 1) (As := [.int (nI j)]) (rest := []) h0 hF (m_X5_costToRedeem h0 (f := f) (k := k) hO  (nI j) j rfl (by omega)) wm_X5_158 wo_X5_costToRedeem ws_X5__X5_costToRedeem wz_X5 wc_X5_costToRedeem ⟨by decide, by decide, by decide +kernel⟩ rfl ⟨Nat.le_of_ble_eq_true rfl, Nat.le_of_ble_eq_true rfl⟩ (ci := 4) ⟨_, hB 0 _ rfl⟩ rfl hB hS noA_old ⟨Nat.zero_le _, Nat.zero_le _⟩ hl.1 rfl (Nat.le_of_ble_eq_true rfl) dX5_cheapestWish_32) ?_
          refine lv_aload_n hx hb dX5_cheapestWish_35 rfl (lv_at hl 0 rfl) ?_
          refine lv_iload_n hx hb dX5_cheapestWish_36 rfl (lv_at hl 2 rfl) ?_
          refine core_p (v := .int (cost k (cwR k set j).toNatClampNeg)) (grV (n := 1) (As := [.int (cwR k set j)]) (rest := [.int (cost k j)]) h0 hF (m_X5_costToRedeem h0 (f := f) (k := k) hO  (cwR k set j) (cwR k set j).toNatClampNeg (cwR_in k set j (by omega) c_27).1 (Nat.lt_trans (cwR_in k set j (by omega) c_27).2 hj_l)) wm_X5_158 wo_X5_costToRedeem ws_X5__X5_costToRedeem wz_X5 wc_X5_costToRedeem ⟨by decide, by decide, by decide +kernel⟩ rfl ⟨Nat.le_of_ble_eq_true rfl, Nat.le_of_ble_eq_true rfl⟩ (ci := 4) ⟨_, hB 0 _ rfl⟩ rfl hB hS noA_old ⟨Nat.zero_le _, Nat.zero_le _⟩ hl.1 rfl (Nat.le_of_ble_eq_true rfl) dX5_cheapestWish_37) ?_
          refine lv_icmp_ge (tgt := 45) hx hb dX5_cheapestWish_40 (by decide) (fun c_40 => ?_) (fun c_40 => ?_)
          · have n_40 := Int32.not_lt.mpr c_40
            refine lv_iinc (v := nI (j + 1)) (lv' := [(3, .int (nI (j + 1))), (0, .ref (f 0)), (1, .int set), (2, .int (cwR k set j))]) hx hb dX5_cheapestWish_45 hl (k := 3) rfl (nI_1 j) (by decide) rfl (fun ls hl => ?_)
            refine lv_goto (tgt := 5) hx hb dX5_cheapestWish_48 (by decide) ?_
            refine ih_5 (j + 1) (by omega) ls (lv_eqv (lv_sub (l' := [(0, .ref (f 0)), (1, .int set), (2, .int (cwR k set j)), (3, .int (nI (j + 1)))]) hl [1, 2, 3, 0] rfl) ?_)
            rw [show (cwR k set j) = (cwR k set (j + 1)) from (by rw [cwR]; simp only [bitI, c_13, n_13, c_21, c_27, c_40, n_40, if_true, if_false, not_true, not_false_eq_true, ite_self])]
          · have n_40 := Int32.not_le.mp c_40
            refine lv_iload_n hx hb dX5_cheapestWish_43 rfl (lv_at hl 3 rfl) ?_
            refine lv_istore_n (lv' := [(2, .int (nI j)), (0, .ref (f 0)), (1, .int set), (3, .int (nI j))]) hx hb dX5_cheapestWish_44 rfl hl (by decide) rfl (fun ls hl => ?_)
            refine lv_iinc (v := nI (j + 1)) (lv' := [(3, .int (nI (j + 1))), (2, .int (nI j)), (0, .ref (f 0)), (1, .int set)]) hx hb dX5_cheapestWish_45 hl (k := 3) rfl (nI_1 j) (by decide) rfl (fun ls hl => ?_)
            refine lv_goto (tgt := 5) hx hb dX5_cheapestWish_48 (by decide) ?_
            refine ih_5 (j + 1) (by omega) ls (lv_eqv (lv_sub (l' := [(0, .ref (f 0)), (1, .int set), (2, .int (nI j)), (3, .int (nI (j + 1)))]) hl [2, 3, 1, 0] rfl) ?_)
            rw [show (nI j) = (cwR k set (j + 1)) from (by rw [cwR]; simp only [bitI, c_13, n_13, c_21, c_27, c_40, n_40, if_true, if_false, not_true, not_false_eq_true, ite_self])]
  exact key_5 (k.2 2) 0 (by omega) ls (lv_sub hl [2, 3, 1, 0] rfl)

set_option maxHeartbeats 4000000 in
set_option maxRecDepth 100000 in
theorem m_X5_costOfSet {X : Cx} {l : Launch} (h0 : Init X) {f : Nat → Nat} {k : Sk} (hO : Ok k)  (set : Int32) : PM X l yX5_costOfSet cX5_costOfSet 4 (some .int) 1 21 [.ref (f 0), .int set] (va_P X.D vwCl (skW X f k)) (.int (coS k set (k.2 2))) := by
  refine Met.mk (Bh := va_P X.D vwCl (skW X f k)) (by decide) (Nat.le_of_ble_eq_true rfl) ?_
  intro p e s m below meth c ls hF hB hl
  have hl : lv_has ls 4 [(0, .ref (f 0)), (1, .int set)] := hl
  obtain ⟨hx, hb, hml, hr, hlk, hown, hG⟩ := id hF
  have hK := hG.K h0
  have hS : va_S noA s.heap s.heap [] := va_S.rf
  have hO1 := hO.1
  have hO2 := hO.2.1
  have hO3 := hO.2.2.1
  refine lv_iconst (v := 0) hx hb dX5_costOfSet_0 (by decide) ?_
  refine lv_istore_n (lv' := [(2, .int 0), (0, .ref (f 0)), (1, .int set)]) hx hb dX5_costOfSet_1 rfl hl (by decide) rfl (fun ls hl => ?_)
  refine lv_iconst (v := 0) hx hb dX5_costOfSet_2 (by decide) ?_
  refine lv_istore_n (lv' := [(3, .int 0), (2, .int 0), (0, .ref (f 0)), (1, .int set)]) hx hb dX5_costOfSet_3 rfl hl (by decide) rfl (fun ls hl => ?_)
  have key_4 : ∀ (nf j : Nat), j + nf = k.2 2 → ∀ (ls : Array Slot), lv_has ls 4 [(0, .ref (f 0)), (1, .int set), (2, .int (coS k set j)), (3, .int (nI j))] → W p l e ({ frames := 1, cells := 0, slots := 0, locals := 21 } : Room) s m ([.ref (f 0), .int set] : List Value).toArray below meth c s.heap [] 0 0 (MQ below (qP (.int (coS k set (k.2 2)))) ([.ref (f 0), .int set] : List Value).toArray s 0 0 noA) (F0 m 4 ls []) := by
    intro nf
    induction nf with
    | zero =>
      intro j hj ls hl
      have hj_e : j = k.2 2 := by omega
      refine lv_iload_n hx hb dX5_costOfSet_4 rfl (lv_at hl 3 rfl) ?_
      refine lv_aload_n hx hb dX5_costOfSet_5 rfl (lv_at hl 0 rfl) ?_
      refine g_get (ci := 4) (v := .ref (f 3)) h0 hF inX5 hB 0 rfl rfl 2 (by decide) wf_X5_28 rfl rfl dX5_costOfSet_6 ?_
      refine g_get (ci := 6) (v := .int (nI (k.2 2))) h0 hF inX7 hB 3 rfl rfl 0 (by decide) wf_X5_123 rfl rfl dX5_costOfSet_9 ?_
      refine lv_icmp_ge (tgt := 37) hx hb dX5_costOfSet_12 (by decide) (fun c_12 => ?_) (fun c_12 => absurd (nI_le (a := k.2 2) (b := j) (by omega) (by omega)) c_12)
      have n_12 := Int32.not_lt.mpr c_12
      refine lv_iload_n hx hb dX5_costOfSet_37 rfl (lv_at hl 2 rfl) ?_
      exact pm_iret hF dX5_costOfSet_38 (by rw [hj_e])
    | succ nf ih_4 =>
      intro j hj ls hl
      have hj_l : j < k.2 2 := by omega
      refine lv_iload_n hx hb dX5_costOfSet_4 rfl (lv_at hl 3 rfl) ?_
      refine lv_aload_n hx hb dX5_costOfSet_5 rfl (lv_at hl 0 rfl) ?_
      refine g_get (ci := 4) (v := .ref (f 3)) h0 hF inX5 hB 0 rfl rfl 2 (by decide) wf_X5_28 rfl rfl dX5_costOfSet_6 ?_
      refine g_get (ci := 6) (v := .int (nI (k.2 2))) h0 hF inX7 hB 3 rfl rfl 0 (by decide) wf_X5_123 rfl rfl dX5_costOfSet_9 ?_
      refine lv_icmp_ge (tgt := 37) hx hb dX5_costOfSet_12 (by decide) (fun c_12 => absurd c_12 (nI_ge (a := j) (b := k.2 2) (by omega) (by omega))) (fun c_12 => ?_)
      have n_12 := Int32.not_le.mp c_12
      refine lv_iload_n hx hb dX5_costOfSet_15 rfl (lv_at hl 1 rfl) ?_
      refine lv_iconst (v := 1) hx hb dX5_costOfSet_16 (by decide) ?_
      refine lv_iload_n hx hb dX5_costOfSet_17 rfl (lv_at hl 3 rfl) ?_
      refine lv_ishl hx hb dX5_costOfSet_18 ?_
      refine lv_iand hx hb dX5_costOfSet_19 ?_
      refine lv_if_eq (tgt := 31) hx hb dX5_costOfSet_20 (by decide) (fun c_20 => ?_) (fun c_20 => ?_)
      · refine lv_iinc (v := nI (j + 1)) (lv' := [(3, .int (nI (j + 1))), (0, .ref (f 0)), (1, .int set), (2, .int (coS k set j))]) hx hb dX5_costOfSet_31 hl (k := 3) rfl (nI_1 j) (by decide) rfl (fun ls hl => ?_)
        refine lv_goto (tgt := 4) hx hb dX5_costOfSet_34 (by decide) ?_
        refine ih_4 (j + 1) (by omega) ls (lv_eqv (lv_sub (l' := [(0, .ref (f 0)), (1, .int set), (2, .int (coS k set j)), (3, .int (nI (j + 1)))]) hl [1, 2, 3, 0] rfl) ?_)
        rw [show (coS k set j) = (coS k set (j + 1)) from (by rw [coS]; simp only [bitI, c_12, n_12, c_20, if_true, if_false])]
      · refine lv_iload_n hx hb dX5_costOfSet_23 rfl (lv_at hl 2 rfl) ?_
        refine lv_aload_n hx hb dX5_costOfSet_24 rfl (lv_at hl 0 rfl) ?_
        refine lv_iload_n hx hb dX5_costOfSet_25 rfl (lv_at hl 3 rfl) ?_
        refine core_p (v := .int (cost k j)) (grV (n := 1) (As := [.int (nI j)]) (rest := [.int (coS k set j)]) h0 hF (m_X5_costToRedeem h0 (f := f) (k := k) hO  (nI j) j rfl (by omega)) wm_X5_158 wo_X5_costToRedeem ws_X5__X5_costToRedeem wz_X5 wc_X5_costToRedeem ⟨by decide, by decide, by decide +kernel⟩ rfl ⟨Nat.le_of_ble_eq_true rfl, Nat.le_of_ble_eq_true rfl⟩ (ci := 4) ⟨_, hB 0 _ rfl⟩ rfl hB hS noA_old ⟨Nat.zero_le _, Nat.zero_le _⟩ hl.1 rfl (Nat.le_of_ble_eq_true rfl) dX5_costOfSet_26) ?_
        refine lv_iadd hx hb dX5_costOfSet_29 ?_
        refine lv_istore_n (lv' := [(2, .int ((coS k set j) + (cost k j))), (0, .ref (f 0)), (1, .int set), (3, .int (nI j))]) hx hb dX5_costOfSet_30 rfl hl (by decide) rfl (fun ls hl => ?_)
        refine lv_iinc (v := nI (j + 1)) (lv' := [(3, .int (nI (j + 1))), (2, .int ((coS k set j) + (cost k j))), (0, .ref (f 0)), (1, .int set)]) hx hb dX5_costOfSet_31 hl (k := 3) rfl (nI_1 j) (by decide) rfl (fun ls hl => ?_)
        refine lv_goto (tgt := 4) hx hb dX5_costOfSet_34 (by decide) ?_
        refine ih_4 (j + 1) (by omega) ls (lv_eqv (lv_sub (l' := [(0, .ref (f 0)), (1, .int set), (2, .int ((coS k set j) + (cost k j))), (3, .int (nI (j + 1)))]) hl [2, 3, 1, 0] rfl) ?_)
        rw [show ((coS k set j) + (cost k j)) = (coS k set (j + 1)) from (by rw [coS]; simp only [bitI, c_12, n_12, c_20, if_true, if_false])]
  exact key_4 (k.2 2) 0 (by omega) ls (lv_sub hl [2, 3, 1, 0] rfl)

set_option maxHeartbeats 4000000 in
set_option maxRecDepth 100000 in
theorem m_J6_bitCount_0f7a4 {X : Cx} {l : Launch} (h0 : Init X) (x : Int32) : PM X l yJ6_bitCount_0f7a4 cJ6_bitCount_0f7a4 1 (some .int) 0 0 [.int x] noW (.int (bcI x)) := by
  refine Met.mk (Bh := noW) (by decide) (Nat.le_of_ble_eq_true rfl) ?_
  intro p e s m below meth c ls hF hB hl
  have hl : lv_has ls 1 [(0, .int x)] := hl
  obtain ⟨hx, hb, hml, hr, hlk, hown, hG⟩ := id hF
  have hK := hG.K h0
  have hS : va_S noA s.heap s.heap [] := va_S.rf
  refine lv_iload_n hx hb dJ6_bitCount_0f7a4_0 rfl (lv_at hl 0 rfl) ?_
  refine lv_iload_n hx hb dJ6_bitCount_0f7a4_1 rfl (lv_at hl 0 rfl) ?_
  refine lv_iconst (v := 1) hx hb dJ6_bitCount_0f7a4_2 (by decide) ?_
  refine lv_iushr (v := ush x 1) hx hb dJ6_bitCount_0f7a4_3 rfl ?_
  refine lv_ldcw hx hb hown (hG.hts h0 _ _ wn_J6_265) dJ6_bitCount_0f7a4_4 ?_
  refine lv_iand hx hb dJ6_bitCount_0f7a4_7 ?_
  refine lv_isub hx hb dJ6_bitCount_0f7a4_8 ?_
  refine lv_topE (y := bc1 x) (rfl) ?_
  refine lv_istore_n (lv' := [(0, .int (bc1 x))]) hx hb dJ6_bitCount_0f7a4_9 rfl hl (by decide) rfl (fun ls hl => ?_)
  refine lv_iload_n hx hb dJ6_bitCount_0f7a4_10 rfl (lv_at hl 0 rfl) ?_
  refine lv_ldcw hx hb hown (hG.hts h0 _ _ wn_J6_266) dJ6_bitCount_0f7a4_11 ?_
  refine lv_iand hx hb dJ6_bitCount_0f7a4_14 ?_
  refine lv_iload_n hx hb dJ6_bitCount_0f7a4_15 rfl (lv_at hl 0 rfl) ?_
  refine lv_iconst (v := 2) hx hb dJ6_bitCount_0f7a4_16 (by decide) ?_
  refine lv_iushr (v := ush (bc1 x) 2) hx hb dJ6_bitCount_0f7a4_17 rfl ?_
  refine lv_ldcw hx hb hown (hG.hts h0 _ _ wn_J6_266) dJ6_bitCount_0f7a4_18 ?_
  refine lv_iand hx hb dJ6_bitCount_0f7a4_21 ?_
  refine lv_iadd hx hb dJ6_bitCount_0f7a4_22 ?_
  refine lv_topE (y := bc2 (bc1 x)) (rfl) ?_
  refine lv_istore_n (lv' := [(0, .int (bc2 (bc1 x)))]) hx hb dJ6_bitCount_0f7a4_23 rfl hl (by decide) rfl (fun ls hl => ?_)
  refine lv_iload_n hx hb dJ6_bitCount_0f7a4_24 rfl (lv_at hl 0 rfl) ?_
  refine lv_iload_n hx hb dJ6_bitCount_0f7a4_25 rfl (lv_at hl 0 rfl) ?_
  refine lv_iconst (v := 4) hx hb dJ6_bitCount_0f7a4_26 (by decide) ?_
  refine lv_iushr (v := ush (bc2 (bc1 x)) 4) hx hb dJ6_bitCount_0f7a4_27 rfl ?_
  refine lv_iadd hx hb dJ6_bitCount_0f7a4_28 ?_
  refine lv_ldcw hx hb hown (hG.hts h0 _ _ wn_J6_267) dJ6_bitCount_0f7a4_29 ?_
  refine lv_iand hx hb dJ6_bitCount_0f7a4_32 ?_
  refine lv_topE (y := bc3 (bc2 (bc1 x))) (rfl) ?_
  refine lv_istore_n (lv' := [(0, .int (bc3 (bc2 (bc1 x))))]) hx hb dJ6_bitCount_0f7a4_33 rfl hl (by decide) rfl (fun ls hl => ?_)
  refine lv_iload_n hx hb dJ6_bitCount_0f7a4_34 rfl (lv_at hl 0 rfl) ?_
  refine lv_iload_n hx hb dJ6_bitCount_0f7a4_35 rfl (lv_at hl 0 rfl) ?_
  refine lv_bipush (v := 8) hx hb dJ6_bitCount_0f7a4_36 (by decide) ?_
  refine lv_iushr (v := ush (bc3 (bc2 (bc1 x))) 8) hx hb dJ6_bitCount_0f7a4_38 rfl ?_
  refine lv_iadd hx hb dJ6_bitCount_0f7a4_39 ?_
  refine lv_topE (y := bc4 (bc3 (bc2 (bc1 x)))) (rfl) ?_
  refine lv_istore_n (lv' := [(0, .int (bc4 (bc3 (bc2 (bc1 x)))))]) hx hb dJ6_bitCount_0f7a4_40 rfl hl (by decide) rfl (fun ls hl => ?_)
  refine lv_iload_n hx hb dJ6_bitCount_0f7a4_41 rfl (lv_at hl 0 rfl) ?_
  refine lv_iload_n hx hb dJ6_bitCount_0f7a4_42 rfl (lv_at hl 0 rfl) ?_
  refine lv_bipush (v := 16) hx hb dJ6_bitCount_0f7a4_43 (by decide) ?_
  refine lv_iushr (v := ush (bc4 (bc3 (bc2 (bc1 x)))) 16) hx hb dJ6_bitCount_0f7a4_45 rfl ?_
  refine lv_iadd hx hb dJ6_bitCount_0f7a4_46 ?_
  refine lv_topE (y := bc5 (bc4 (bc3 (bc2 (bc1 x))))) (rfl) ?_
  refine lv_istore_n (lv' := [(0, .int (bc5 (bc4 (bc3 (bc2 (bc1 x))))))]) hx hb dJ6_bitCount_0f7a4_47 rfl hl (by decide) rfl (fun ls hl => ?_)
  refine lv_iload_n hx hb dJ6_bitCount_0f7a4_48 rfl (lv_at hl 0 rfl) ?_
  refine lv_bipush (v := 63) hx hb dJ6_bitCount_0f7a4_49 (by decide) ?_
  refine lv_iand hx hb dJ6_bitCount_0f7a4_51 ?_
  exact pm_iret hF dJ6_bitCount_0f7a4_52 (rfl)

set_option maxHeartbeats 4000000 in
set_option maxRecDepth 100000 in
theorem m_X5_countRedeemableByTrying {X : Cx} {l : Launch} (h0 : Init X) {f : Nat → Nat} {k : Sk} (hO : Ok k)  (x : Int32) (r : Nat) (hxr : x = nI r) (hr : r < k.2 1) : PM X l yX5_countRedeemableByTrying cX5_countRedeemableByTrying 5 (some .int) 2 44 [.ref (f 0), .int x] (va_P X.D vwCl (skW X f k)) (.int (tR k r (iN k (nI r) (k.2 2)) (iN k (nI r) (k.2 2) + 1))) := by
  subst hxr
  refine Met.mk (Bh := va_P X.D vwCl (skW X f k)) (by decide) (Nat.le_of_ble_eq_true rfl) ?_
  intro p e s m below meth c ls hF hB hl
  have hl : lv_has ls 5 [(0, .ref (f 0)), (1, .int (nI r))] := hl
  obtain ⟨hx, hb, hml, hr, hlk, hown, hG⟩ := id hF
  have hK := hG.K h0
  have hS : va_S noA s.heap s.heap [] := va_S.rf
  have hO1 := hO.1
  have hO2 := hO.2.1
  have hO3 := hO.2.2.1
  have hA8 := iN_lt k (nI r) (k.2 2)
  have hA9 : 2 ^ (k.2 2) ≤ 2 ^ 8 := Nat.pow_le_pow_right (by decide) hO3
  refine lv_aload_n hx hb dX5_countRedeemableByTrying_0 rfl (lv_at hl 0 rfl) ?_
  refine g_get (ci := 4) (v := .ref (f 3)) h0 hF inX5 hB 0 rfl rfl 2 (by decide) wf_X5_28 rfl rfl dX5_countRedeemableByTrying_1 ?_
  refine lv_iload_n hx hb dX5_countRedeemableByTrying_4 rfl (lv_at hl 1 rfl) ?_
  refine core_p (v := .int (nI (iN k (nI r) (k.2 2)))) (grV (n := 1) (As := [.int (nI r)]) (rest := []) h0 hF (m_X7_impoundedSetOf h0 (f := f) (k := k) hO  (nI r)) wm_X5_187 wo_X7_impoundedSetOf ws_X7__X7_impoundedSetOf wz_X7 wc_X7_impoundedSetOf ⟨by decide, by decide, by decide +kernel⟩ rfl ⟨Nat.le_of_ble_eq_true rfl, Nat.le_of_ble_eq_true rfl⟩ (ci := 6) ⟨_, hB 3 _ rfl⟩ rfl hB hS noA_old ⟨Nat.zero_le _, Nat.zero_le _⟩ hl.1 rfl (Nat.le_of_ble_eq_true rfl) dX5_countRedeemableByTrying_5) ?_
  refine lv_istore_n (lv' := [(2, .int (nI (iN k (nI r) (k.2 2)))), (0, .ref (f 0)), (1, .int (nI r))]) hx hb dX5_countRedeemableByTrying_8 rfl hl (by decide) rfl (fun ls hl => ?_)
  refine lv_iconst (v := 0) hx hb dX5_countRedeemableByTrying_9 (by decide) ?_
  refine lv_istore_n (lv' := [(3, .int 0), (2, .int (nI (iN k (nI r) (k.2 2)))), (0, .ref (f 0)), (1, .int (nI r))]) hx hb dX5_countRedeemableByTrying_10 rfl hl (by decide) rfl (fun ls hl => ?_)
  refine lv_iconst (v := 0) hx hb dX5_countRedeemableByTrying_11 (by decide) ?_
  refine lv_istore (lv' := [(4, .int 0), (3, .int 0), (2, .int (nI (iN k (nI r) (k.2 2)))), (0, .ref (f 0)), (1, .int (nI r))]) hx hb dX5_countRedeemableByTrying_12 hl (by decide) rfl (fun ls hl => ?_)
  have key_14 : ∀ (nf j : Nat), j + nf = iN k (nI r) (k.2 2) + 1 → ∀ (ls : Array Slot), lv_has ls 5 [(0, .ref (f 0)), (1, .int (nI r)), (2, .int (nI (iN k (nI r) (k.2 2)))), (3, .int (tR k r (iN k (nI r) (k.2 2)) j)), (4, .int (nI j))] → W p l e ({ frames := 2, cells := 0, slots := 0, locals := 44 } : Room) s m ([.ref (f 0), .int (nI r)] : List Value).toArray below meth c s.heap [] 0 0 (MQ below (qP (.int (tR k r (iN k (nI r) (k.2 2)) (iN k (nI r) (k.2 2) + 1)))) ([.ref (f 0), .int (nI r)] : List Value).toArray s 0 0 noA) (F0 m 14 ls []) := by
    intro nf
    induction nf with
    | zero =>
      intro j hj ls hl
      have hj_e : j = iN k (nI r) (k.2 2) + 1 := by omega
      refine lv_iload hx hb dX5_countRedeemableByTrying_14 (lv_at hl 4 rfl) ?_
      refine lv_iload_n hx hb dX5_countRedeemableByTrying_16 rfl (lv_at hl 2 rfl) ?_
      refine lv_icmp_gt (tgt := 63) hx hb dX5_countRedeemableByTrying_17 (by decide) (fun c_17 => ?_) (fun c_17 => absurd (nI_lt (a := iN k (nI r) (k.2 2)) (b := j) (by omega) (by omega)) c_17)
      have n_17 := Int32.not_le.mpr c_17
      refine lv_iload_n hx hb dX5_countRedeemableByTrying_63 rfl (lv_at hl 3 rfl) ?_
      exact pm_iret hF dX5_countRedeemableByTrying_64 (by rw [hj_e])
    | succ nf ih_14 =>
      intro j hj ls hl
      have hj_l : j < iN k (nI r) (k.2 2) + 1 := by omega
      refine lv_iload hx hb dX5_countRedeemableByTrying_14 (lv_at hl 4 rfl) ?_
      refine lv_iload_n hx hb dX5_countRedeemableByTrying_16 rfl (lv_at hl 2 rfl) ?_
      refine lv_icmp_gt (tgt := 63) hx hb dX5_countRedeemableByTrying_17 (by decide) (fun c_17 => absurd c_17 (nI_nlt (a := iN k (nI r) (k.2 2)) (b := j) (by omega) (by omega))) (fun c_17 => ?_)
      have n_17 := Int32.not_lt.mp c_17
      refine lv_iload hx hb dX5_countRedeemableByTrying_20 (lv_at hl 4 rfl) ?_
      refine lv_iload_n hx hb dX5_countRedeemableByTrying_22 rfl (lv_at hl 2 rfl) ?_
      refine lv_iconst (v := (-1)) hx hb dX5_countRedeemableByTrying_23 (by decide) ?_
      refine lv_ixor hx hb dX5_countRedeemableByTrying_24 ?_
      refine lv_iand hx hb dX5_countRedeemableByTrying_25 ?_
      refine lv_if_ne (tgt := 57) hx hb dX5_countRedeemableByTrying_26 (by decide) (fun c_26 => ?_) (fun c_26 => ?_)
      · refine lv_iinc (v := nI (j + 1)) (lv' := [(4, .int (nI (j + 1))), (0, .ref (f 0)), (1, .int (nI r)), (2, .int (nI (iN k (nI r) (k.2 2)))), (3, .int (tR k r (iN k (nI r) (k.2 2)) j))]) hx hb dX5_countRedeemableByTrying_57 hl (k := 4) rfl (nI_1 j) (by decide) rfl (fun ls hl => ?_)
        refine lv_goto (tgt := 14) hx hb dX5_countRedeemableByTrying_60 (by decide) ?_
        refine ih_14 (j + 1) (by omega) ls (lv_eqv (lv_sub (l' := [(0, .ref (f 0)), (1, .int (nI r)), (2, .int (nI (iN k (nI r) (k.2 2)))), (3, .int (tR k r (iN k (nI r) (k.2 2)) j)), (4, .int (nI (j + 1)))]) hl [1, 2, 3, 4, 0] rfl) ?_)
        rw [show (tR k r (iN k (nI r) (k.2 2)) j) = (tR k r (iN k (nI r) (k.2 2)) (j + 1)) from (by rw [tR]; simp only [c_17, n_17, c_26, and_true, true_and, and_self, and_false, false_and, if_true, if_false])]
      · refine lv_aload_n hx hb dX5_countRedeemableByTrying_29 rfl (lv_at hl 0 rfl) ?_
        refine lv_iload hx hb dX5_countRedeemableByTrying_30 (lv_at hl 4 rfl) ?_
        refine core_p (v := .int (coS k (nI j) (k.2 2))) (grV (n := 1) (As := [.int (nI j)]) (rest := []) h0 hF (m_X5_costOfSet h0 (f := f) (k := k) hO  (nI j)) wm_X5_193 wo_X5_costOfSet ws_X5__X5_costOfSet wz_X5 wc_X5_costOfSet ⟨by decide, by decide, by decide +kernel⟩ rfl ⟨Nat.le_of_ble_eq_true rfl, Nat.le_of_ble_eq_true rfl⟩ (ci := 4) ⟨_, hB 0 _ rfl⟩ rfl hB hS noA_old ⟨Nat.zero_le _, Nat.zero_le _⟩ hl.1 rfl (Nat.le_of_ble_eq_true rfl) dX5_countRedeemableByTrying_32) ?_
        refine lv_aload_n hx hb dX5_countRedeemableByTrying_35 rfl (lv_at hl 0 rfl) ?_
        refine g_get (ci := 4) (v := .ref (f 2)) h0 hF inX5 hB 0 rfl rfl 1 (by decide) wf_X5_21 rfl rfl dX5_countRedeemableByTrying_36 ?_
        refine g_get (ci := 3) (v := .ref (f 9)) h0 hF inX4 hB 2 rfl rfl 1 (by decide) wf_X5_120 rfl rfl dX5_countRedeemableByTrying_39 ?_
        refine lv_iload_n hx hb dX5_countRedeemableByTrying_42 rfl (lv_at hl 1 rfl) ?_
        refine g_iald hx hb hK hB 9 0 rfl rfl r (rfl) (by omega) (by decide) dX5_countRedeemableByTrying_43 ?_
        refine lv_icmp_gt (tgt := 57) hx hb dX5_countRedeemableByTrying_44 (by decide) (fun c_44 => ?_) (fun c_44 => ?_)
        · have n_44 := Int32.not_le.mpr c_44
          refine lv_iinc (v := nI (j + 1)) (lv' := [(4, .int (nI (j + 1))), (0, .ref (f 0)), (1, .int (nI r)), (2, .int (nI (iN k (nI r) (k.2 2)))), (3, .int (tR k r (iN k (nI r) (k.2 2)) j))]) hx hb dX5_countRedeemableByTrying_57 hl (k := 4) rfl (nI_1 j) (by decide) rfl (fun ls hl => ?_)
          refine lv_goto (tgt := 14) hx hb dX5_countRedeemableByTrying_60 (by decide) ?_
          refine ih_14 (j + 1) (by omega) ls (lv_eqv (lv_sub (l' := [(0, .ref (f 0)), (1, .int (nI r)), (2, .int (nI (iN k (nI r) (k.2 2)))), (3, .int (tR k r (iN k (nI r) (k.2 2)) j)), (4, .int (nI (j + 1)))]) hl [1, 2, 3, 4, 0] rfl) ?_)
          rw [show (tR k r (iN k (nI r) (k.2 2)) j) = (tR k r (iN k (nI r) (k.2 2)) (j + 1)) from (by rw [tR]; simp only [c_17, n_17, c_26, c_44, n_44, and_true, true_and, and_self, and_false, false_and, if_true, if_false])]
        · have n_44 := Int32.not_lt.mp c_44
          refine lv_iload_n hx hb dX5_countRedeemableByTrying_47 rfl (lv_at hl 3 rfl) ?_
          refine lv_iload hx hb dX5_countRedeemableByTrying_48 (lv_at hl 4 rfl) ?_
          refine core_p (v := .int (bcI (nI j))) (grS (n := 1) (As := [.int (nI j)]) (rest := [.int (tR k r (iN k (nI r) (k.2 2)) j)]) h0 hF (m_J6_bitCount_0f7a4 h0 (nI j)) wm_X5_93 wt_J6_bitCount_0f7a4 wz_J6 wc_J6_bitCount_0f7a4 ⟨by decide, by decide, by decide +kernel⟩ rfl ⟨Nat.le_of_ble_eq_true rfl, Nat.le_of_ble_eq_true rfl⟩ trivial hS noA_old ⟨Nat.zero_le _, Nat.zero_le _⟩ hl.1 rfl (Nat.le_of_ble_eq_true rfl) dX5_countRedeemableByTrying_50) ?_
          refine va_mmax hx hb (by rw [hl.1]; exact hml) hown (hG.hts h0 _ _ wm_X5_196) (hG.hts h0 _ _ wt_J9_max_7cf53) (hG.hts h0 _ _ wz_J9) (hG.hts h0 _ _ wc_J9_max_7cf53) (Nat.le_of_ble_eq_true rfl) (Nat.le_of_ble_eq_true rfl) (Nat.zero_le _) (Nat.zero_le _) dX5_countRedeemableByTrying_53 ?_
          refine lv_istore_n (lv' := [(3, .int (if tR k r (iN k (nI r) (k.2 2)) j < bcI (nI j) then bcI (nI j) else tR k r (iN k (nI r) (k.2 2)) j)), (0, .ref (f 0)), (1, .int (nI r)), (2, .int (nI (iN k (nI r) (k.2 2)))), (4, .int (nI j))]) hx hb dX5_countRedeemableByTrying_56 rfl hl (by decide) rfl (fun ls hl => ?_)
          refine lv_iinc (v := nI (j + 1)) (lv' := [(4, .int (nI (j + 1))), (3, .int (if tR k r (iN k (nI r) (k.2 2)) j < bcI (nI j) then bcI (nI j) else tR k r (iN k (nI r) (k.2 2)) j)), (0, .ref (f 0)), (1, .int (nI r)), (2, .int (nI (iN k (nI r) (k.2 2))))]) hx hb dX5_countRedeemableByTrying_57 hl (k := 4) rfl (nI_1 j) (by decide) rfl (fun ls hl => ?_)
          refine lv_goto (tgt := 14) hx hb dX5_countRedeemableByTrying_60 (by decide) ?_
          refine ih_14 (j + 1) (by omega) ls (lv_eqv (lv_sub (l' := [(0, .ref (f 0)), (1, .int (nI r)), (2, .int (nI (iN k (nI r) (k.2 2)))), (3, .int (if tR k r (iN k (nI r) (k.2 2)) j < bcI (nI j) then bcI (nI j) else tR k r (iN k (nI r) (k.2 2)) j)), (4, .int (nI (j + 1)))]) hl [2, 3, 4, 1, 0] rfl) ?_)
          rw [show (if tR k r (iN k (nI r) (k.2 2)) j < bcI (nI j) then bcI (nI j) else tR k r (iN k (nI r) (k.2 2)) j) = (tR k r (iN k (nI r) (k.2 2)) (j + 1)) from (by rw [tR]; simp only [c_17, n_17, c_26, c_44, n_44, and_true, true_and, and_self, and_false, false_and, if_true, if_false])]
  exact key_14 (iN k (nI r) (k.2 2) + 1) 0 (by omega) ls (lv_sub hl [3, 4, 2, 1, 0] rfl)

set_option maxHeartbeats 4000000 in
set_option maxRecDepth 100000 in
theorem m_X5_countRedeemable {X : Cx} {l : Launch} (h0 : Init X) {f : Nat → Nat} {k : Sk} (hO : Ok k)  (x : Int32) (r : Nat) (hxr : x = nI r) (hr : r < k.2 1) : PM X l yX5_countRedeemable cX5_countRedeemable 6 (some .int) 2 44 [.ref (f 0), .int x] (va_P X.D vwCl (skW X f k)) (.int (gre k 8 (k.1 5 r) (nI (iN k (nI r) (k.2 2))) 0)) := by
  subst hxr
  refine Met.mk (Bh := va_P X.D vwCl (skW X f k)) (by decide) (Nat.le_of_ble_eq_true rfl) ?_
  intro p e s m below meth c ls hF hB hl
  have hl : lv_has ls 6 [(0, .ref (f 0)), (1, .int (nI r))] := hl
  obtain ⟨hx, hb, hml, hr, hlk, hown, hG⟩ := id hF
  have hK := hG.K h0
  have hS : va_S noA s.heap s.heap [] := va_S.rf
  have hO1 := hO.1
  have hO2 := hO.2.1
  have hO3 := hO.2.2.1
  refine lv_aload_n hx hb dX5_countRedeemable_0 rfl (lv_at hl 0 rfl) ?_
  refine g_get (ci := 4) (v := .ref (f 2)) h0 hF inX5 hB 0 rfl rfl 1 (by decide) wf_X5_21 rfl rfl dX5_countRedeemable_1 ?_
  refine g_get (ci := 3) (v := .ref (f 9)) h0 hF inX4 hB 2 rfl rfl 1 (by decide) wf_X5_120 rfl rfl dX5_countRedeemable_4 ?_
  refine lv_iload_n hx hb dX5_countRedeemable_7 rfl (lv_at hl 1 rfl) ?_
  refine g_iald hx hb hK hB 9 0 rfl rfl r (rfl) (by omega) (by decide) dX5_countRedeemable_8 ?_
  refine lv_istore_n (lv' := [(2, .int (k.1 5 r)), (0, .ref (f 0)), (1, .int (nI r))]) hx hb dX5_countRedeemable_9 rfl hl (by decide) rfl (fun ls hl => ?_)
  refine lv_aload_n hx hb dX5_countRedeemable_10 rfl (lv_at hl 1 rfl) ?_
  refine g_get (ci := 4) (v := .ref (f 3)) h0 hF inX5 hB 0 rfl rfl 2 (by decide) wf_X5_28 rfl rfl dX5_countRedeemable_11 ?_
  refine lv_iload_n hx hb dX5_countRedeemable_14 rfl (lv_at hl 2 rfl) ?_
  refine core_p (v := .int (nI (iN k (nI r) (k.2 2)))) (grV (n := 1) (As := [.int (nI r)]) (rest := []) h0 hF (m_X7_impoundedSetOf h0 (f := f) (k := k) hO  (nI r)) wm_X5_187 wo_X7_impoundedSetOf ws_X7__X7_impoundedSetOf wz_X7 wc_X7_impoundedSetOf ⟨by decide, by decide, by decide +kernel⟩ rfl ⟨Nat.le_of_ble_eq_true rfl, Nat.le_of_ble_eq_true rfl⟩ (ci := 6) ⟨_, hB 3 _ rfl⟩ rfl hB hS noA_old ⟨Nat.zero_le _, Nat.zero_le _⟩ hl.1 rfl (Nat.le_of_ble_eq_true rfl) dX5_countRedeemable_15) ?_
  refine lv_istore_n (lv' := [(3, .int (nI (iN k (nI r) (k.2 2)))), (2, .int (k.1 5 r)), (0, .ref (f 0)), (1, .int (nI r))]) hx hb dX5_countRedeemable_18 rfl hl (by decide) rfl (fun ls hl => ?_)
  refine lv_iconst (v := 0) hx hb dX5_countRedeemable_19 (by decide) ?_
  refine lv_istore (lv' := [(4, .int 0), (3, .int (nI (iN k (nI r) (k.2 2)))), (2, .int (k.1 5 r)), (0, .ref (f 0)), (1, .int (nI r))]) hx hb dX5_countRedeemable_20 hl (by decide) rfl (fun ls hl => ?_)
  have key_22 : ∀ (nf j : Nat), j + nf = 8 → ∀ (lf op : Int32), gre k 8 (k.1 5 r) (nI (iN k (nI r) (k.2 2))) 0 = gre k nf lf op j → ∀ (ls : Array Slot), lv_has ls 6 [(0, .ref (f 0)), (1, .int (nI r)), (2, .int lf), (3, .int op), (4, .int (nI j))] → W p l e ({ frames := 2, cells := 0, slots := 0, locals := 44 } : Room) s m ([.ref (f 0), .int (nI r)] : List Value).toArray below meth c s.heap [] 0 0 (MQ below (qP (.int (gre k 8 (k.1 5 r) (nI (iN k (nI r) (k.2 2))) 0))) ([.ref (f 0), .int (nI r)] : List Value).toArray s 0 0 noA) (F0 m 22 ls []) := by
    intro nf
    induction nf with
    | zero =>
      intro j hj lf op hx_j ls hl
      have hj_e : j = 8 := by omega
      refine lv_iload hx hb dX5_countRedeemable_22 (lv_at hl 4 rfl) ?_
      refine lv_bipush (v := 8) hx hb dX5_countRedeemable_24 (by decide) ?_
      refine lv_icmp_ge (tgt := 80) hx hb dX5_countRedeemable_26 (by decide) (fun c_26 => ?_) (fun c_26 => absurd (nI_le (a := 8) (b := j) (by omega) (by omega)) c_26)
      have n_26 := Int32.not_lt.mpr c_26
      refine lv_bipush (v := 8) hx hb dX5_countRedeemable_80 (by decide) ?_
      exact pm_iret hF dX5_countRedeemable_82 (by rw [hx_j]; rfl)
    | succ nf ih_22 =>
      intro j hj lf op hx_j ls hl
      have hj_l : j < 8 := by omega
      refine lv_iload hx hb dX5_countRedeemable_22 (lv_at hl 4 rfl) ?_
      refine lv_bipush (v := 8) hx hb dX5_countRedeemable_24 (by decide) ?_
      refine lv_icmp_ge (tgt := 80) hx hb dX5_countRedeemable_26 (by decide) (fun c_26 => absurd c_26 (nI_ge (a := j) (b := 8) (by omega) (by omega))) (fun c_26 => ?_)
      have n_26 := Int32.not_le.mp c_26
      refine lv_aload_n hx hb dX5_countRedeemable_29 rfl (lv_at hl 0 rfl) ?_
      refine lv_iload_n hx hb dX5_countRedeemable_30 rfl (lv_at hl 3 rfl) ?_
      refine core_p (v := .int (cwR k op (k.2 2))) (grV (n := 1) (As := [.int op]) (rest := []) h0 hF (m_X5_cheapestWish h0 (f := f) (k := k) hO  op) wm_X5_190 wo_X5_cheapestWish ws_X5__X5_cheapestWish wz_X5 wc_X5_cheapestWish ⟨by decide, by decide, by decide +kernel⟩ rfl ⟨Nat.le_of_ble_eq_true rfl, Nat.le_of_ble_eq_true rfl⟩ (ci := 4) ⟨_, hB 0 _ rfl⟩ rfl hB hS noA_old ⟨Nat.zero_le _, Nat.zero_le _⟩ hl.1 rfl (Nat.le_of_ble_eq_true rfl) dX5_countRedeemable_31) ?_
      refine lv_istore (lv' := [(5, .int (cwR k op (k.2 2))), (0, .ref (f 0)), (1, .int (nI r)), (2, .int lf), (3, .int op), (4, .int (nI j))]) hx hb dX5_countRedeemable_34 hl (by decide) rfl (fun ls hl => ?_)
      refine lv_iload hx hb dX5_countRedeemable_36 (lv_at hl 0 rfl) ?_
      refine lv_bipush (v := (-4)) hx hb dX5_countRedeemable_38 (by decide) ?_
      refine lv_icmp_eq (tgt := 53) hx hb dX5_countRedeemable_40 (by decide) (fun c_40 => ?_) (fun c_40 => ?_)
      · refine lv_iload hx hb dX5_countRedeemable_53 (lv_at hl 5 rfl) ?_
        exact pm_iret hF dX5_countRedeemable_55 (by rw [hx_j, gre, if_pos (by assumption)])
      · refine lv_aload_n hx hb dX5_countRedeemable_43 rfl (lv_at hl 1 rfl) ?_
        refine lv_iload hx hb dX5_countRedeemable_44 (lv_at hl 0 rfl) ?_
        refine core_p (v := .int (cost k (cwR k op (k.2 2)).toNatClampNeg)) (grV (n := 1) (As := [.int (cwR k op (k.2 2))]) (rest := []) h0 hF (m_X5_costToRedeem h0 (f := f) (k := k) hO  (cwR k op (k.2 2)) (cwR k op (k.2 2)).toNatClampNeg (cwR_in k op (k.2 2) hO3 c_40).1 (cwR_in k op (k.2 2) hO3 c_40).2) wm_X5_158 wo_X5_costToRedeem ws_X5__X5_costToRedeem wz_X5 wc_X5_costToRedeem ⟨by decide, by decide, by decide +kernel⟩ rfl ⟨Nat.le_of_ble_eq_true rfl, Nat.le_of_ble_eq_true rfl⟩ (ci := 4) ⟨_, hB 0 _ rfl⟩ rfl hB hS noA_old ⟨Nat.zero_le _, Nat.zero_le _⟩ hl.1 rfl (Nat.le_of_ble_eq_true rfl) dX5_countRedeemable_46) ?_
        refine lv_iload_n hx hb dX5_countRedeemable_49 rfl (lv_at hl 3 rfl) ?_
        refine lv_icmp_le (tgt := 56) hx hb dX5_countRedeemable_50 (by decide) (fun c_50 => ?_) (fun c_50 => ?_)
        · have n_50 := Int32.not_lt.mpr c_50
          refine lv_iload_n hx hb dX5_countRedeemable_56 rfl (lv_at hl 3 rfl) ?_
          refine lv_aload_n hx hb dX5_countRedeemable_57 rfl (lv_at hl 1 rfl) ?_
          refine lv_iload hx hb dX5_countRedeemable_58 (lv_at hl 0 rfl) ?_
          refine core_p (v := .int (cost k (cwR k op (k.2 2)).toNatClampNeg)) (grV (n := 1) (As := [.int (cwR k op (k.2 2))]) (rest := [.int lf]) h0 hF (m_X5_costToRedeem h0 (f := f) (k := k) hO  (cwR k op (k.2 2)) (cwR k op (k.2 2)).toNatClampNeg (cwR_in k op (k.2 2) hO3 c_40).1 (cwR_in k op (k.2 2) hO3 c_40).2) wm_X5_158 wo_X5_costToRedeem ws_X5__X5_costToRedeem wz_X5 wc_X5_costToRedeem ⟨by decide, by decide, by decide +kernel⟩ rfl ⟨Nat.le_of_ble_eq_true rfl, Nat.le_of_ble_eq_true rfl⟩ (ci := 4) ⟨_, hB 0 _ rfl⟩ rfl hB hS noA_old ⟨Nat.zero_le _, Nat.zero_le _⟩ hl.1 rfl (Nat.le_of_ble_eq_true rfl) dX5_countRedeemable_60) ?_
          refine lv_isub hx hb dX5_countRedeemable_63 ?_
          refine lv_istore_n (lv' := [(2, .int (lf - (cost k (cwR k op (k.2 2)).toNatClampNeg))), (5, .int (cwR k op (k.2 2))), (0, .ref (f 0)), (1, .int (nI r)), (3, .int op), (4, .int (nI j))]) hx hb dX5_countRedeemable_64 rfl hl (by decide) rfl (fun ls hl => ?_)
          refine lv_iload_n hx hb dX5_countRedeemable_65 rfl (lv_at hl 4 rfl) ?_
          refine lv_iconst (v := 1) hx hb dX5_countRedeemable_66 (by decide) ?_
          refine lv_iload hx hb dX5_countRedeemable_67 (lv_at hl 1 rfl) ?_
          refine lv_ishl hx hb dX5_countRedeemable_69 ?_
          refine lv_iconst (v := (-1)) hx hb dX5_countRedeemable_70 (by decide) ?_
          refine lv_ixor hx hb dX5_countRedeemable_71 ?_
          refine lv_iand hx hb dX5_countRedeemable_72 ?_
          refine lv_istore_n (lv' := [(3, .int (op &&& ((1 <<< ((cwR k op (k.2 2)) &&& 31)) ^^^ (-1)))), (2, .int (lf - (cost k (cwR k op (k.2 2)).toNatClampNeg))), (5, .int (cwR k op (k.2 2))), (0, .ref (f 0)), (1, .int (nI r)), (4, .int (nI j))]) hx hb dX5_countRedeemable_73 rfl hl (by decide) rfl (fun ls hl => ?_)
          refine lv_iinc (v := nI (j + 1)) (lv' := [(4, .int (nI (j + 1))), (3, .int (op &&& ((1 <<< ((cwR k op (k.2 2)) &&& 31)) ^^^ (-1)))), (2, .int (lf - (cost k (cwR k op (k.2 2)).toNatClampNeg))), (5, .int (cwR k op (k.2 2))), (0, .ref (f 0)), (1, .int (nI r))]) hx hb dX5_countRedeemable_74 hl (k := 5) rfl (nI_1 j) (by decide) rfl (fun ls hl => ?_)
          refine lv_goto (tgt := 22) hx hb dX5_countRedeemable_77 (by decide) ?_
          refine ih_22 (j + 1) (by omega) (lf - (cost k (cwR k op (k.2 2)).toNatClampNeg)) (op &&& ((1 <<< ((cwR k op (k.2 2)) &&& 31)) ^^^ (-1))) (by rw [hx_j, gre, if_neg (by simp only [c_26, n_26, c_40, c_50, n_50, not_false_eq_true]), if_pos (by assumption)]) ls (lv_eqv (lv_sub (l' := [(0, .ref (f 0)), (1, .int (nI r)), (2, .int (lf - (cost k (cwR k op (k.2 2)).toNatClampNeg))), (3, .int (op &&& ((1 <<< ((cwR k op (k.2 2)) &&& 31)) ^^^ (-1)))), (4, .int (nI (j + 1)))]) hl [4, 5, 2, 1, 0] rfl) ?_)
          rfl
        · have n_50 := Int32.not_le.mp c_50
          refine lv_iload hx hb dX5_countRedeemable_53 (lv_at hl 5 rfl) ?_
          exact pm_iret hF dX5_countRedeemable_55 (by rw [hx_j, gre, if_neg (by assumption), if_neg (by assumption)])
  exact key_22 (8) 0 (by omega) (k.1 5 r) (nI (iN k (nI r) (k.2 2))) (rfl) ls (lv_sub hl [3, 4, 2, 1, 0] rfl)

set_option maxHeartbeats 4000000 in
set_option maxRecDepth 100000 in
theorem m_X5_isCheaper {X : Cx} {l : Launch} (h0 : Init X) {f : Nat → Nat} {k : Sk} (hO : Ok k)  (x : Int32) (r : Nat) (hxr : x = nI r) (hr : r < k.2 1)(y : Int32) (i : Nat) (hxi : y = nI i) (hi : i < k.2 0)(u : Int32) (o : Nat) (hxo : u = nI o) (ho : o < k.2 0) : PM X l yX5_isCheaper cX5_isCheaper 6 (some .boolean) 2 44 [.ref (f 0), .int x, .int y, .int u] (va_P X.D vwCl (skW X f k)) (.int (bI (chB k r i o))) := by
  subst hxr
  subst hxi
  subst hxo
  refine Met.mk (Bh := va_P X.D vwCl (skW X f k)) (by decide) (Nat.le_of_ble_eq_true rfl) ?_
  intro p e s m below meth c ls hF hB hl
  have hl : lv_has ls 6 [(0, .ref (f 0)), (1, .int (nI r)), (2, .int (nI i)), (3, .int (nI o))] := hl
  obtain ⟨hx, hb, hml, hr, hlk, hown, hG⟩ := id hF
  have hK := hG.K h0
  have hS : va_S noA s.heap s.heap [] := va_S.rf
  have hO1 := hO.1
  have hO2 := hO.2.1
  have hO3 := hO.2.2.1
  refine lv_aload_n hx hb dX5_isCheaper_0 rfl (lv_at hl 0 rfl) ?_
  refine lv_iload_n hx hb dX5_isCheaper_1 rfl (lv_at hl 1 rfl) ?_
  refine lv_iload_n hx hb dX5_isCheaper_2 rfl (lv_at hl 2 rfl) ?_
  refine core_p (v := .int (levI k (nI r) i)) (grV (n := 2) (As := [.int (nI r), .int (nI i)]) (rest := []) h0 hF (m_X5_levyOn h0 (f := f) (k := k) hO  (nI r) (nI i) i rfl (by omega)) wm_X5_107 wo_X5_levyOn ws_X5__X5_levyOn wz_X5 wc_X5_levyOn ⟨by decide, by decide, by decide +kernel⟩ rfl ⟨Nat.le_of_ble_eq_true rfl, Nat.le_of_ble_eq_true rfl⟩ (ci := 4) ⟨_, hB 0 _ rfl⟩ rfl hB hS noA_old ⟨Nat.zero_le _, Nat.zero_le _⟩ hl.1 rfl (Nat.le_of_ble_eq_true rfl) dX5_isCheaper_3) ?_
  refine lv_istore (lv' := [(4, .int (levI k (nI r) i)), (0, .ref (f 0)), (1, .int (nI r)), (2, .int (nI i)), (3, .int (nI o))]) hx hb dX5_isCheaper_6 hl (by decide) rfl (fun ls hl => ?_)
  refine lv_aload_n hx hb dX5_isCheaper_8 rfl (lv_at hl 1 rfl) ?_
  refine lv_iload_n hx hb dX5_isCheaper_9 rfl (lv_at hl 2 rfl) ?_
  refine lv_iload_n hx hb dX5_isCheaper_10 rfl (lv_at hl 4 rfl) ?_
  refine core_p (v := .int (levI k (nI r) o)) (grV (n := 2) (As := [.int (nI r), .int (nI o)]) (rest := []) h0 hF (m_X5_levyOn h0 (f := f) (k := k) hO  (nI r) (nI o) o rfl (by omega)) wm_X5_107 wo_X5_levyOn ws_X5__X5_levyOn wz_X5 wc_X5_levyOn ⟨by decide, by decide, by decide +kernel⟩ rfl ⟨Nat.le_of_ble_eq_true rfl, Nat.le_of_ble_eq_true rfl⟩ (ci := 4) ⟨_, hB 0 _ rfl⟩ rfl hB hS noA_old ⟨Nat.zero_le _, Nat.zero_le _⟩ hl.1 rfl (Nat.le_of_ble_eq_true rfl) dX5_isCheaper_11) ?_
  refine lv_istore (lv' := [(5, .int (levI k (nI r) o)), (4, .int (levI k (nI r) i)), (0, .ref (f 0)), (1, .int (nI r)), (2, .int (nI i)), (3, .int (nI o))]) hx hb dX5_isCheaper_14 hl (by decide) rfl (fun ls hl => ?_)
  refine lv_iload hx hb dX5_isCheaper_16 (lv_at hl 1 rfl) ?_
  refine lv_iload hx hb dX5_isCheaper_18 (lv_at hl 0 rfl) ?_
  refine lv_icmp_eq (tgt := 36) hx hb dX5_isCheaper_20 (by decide) (fun c_20 => ?_) (fun c_20 => ?_)
  · refine lv_aload_n hx hb dX5_isCheaper_36 rfl (lv_at hl 2 rfl) ?_
    refine g_get (ci := 4) (v := .ref (f 1)) h0 hF inX5 hB 0 rfl rfl 0 (by decide) wf_X5_12 rfl rfl dX5_isCheaper_37 ?_
    refine g_get (ci := 5) (v := .ref (f 4)) h0 hF inX6 hB 1 rfl rfl 1 (by decide) wf_X5_117 rfl rfl dX5_isCheaper_40 ?_
    refine lv_iload_n hx hb dX5_isCheaper_43 rfl (lv_at hl 4 rfl) ?_
    refine g_iald hx hb hK hB 4 0 rfl rfl i (rfl) (by omega) (by decide) dX5_isCheaper_44 ?_
    refine lv_aload_n hx hb dX5_isCheaper_45 rfl (lv_at hl 2 rfl) ?_
    refine g_get (ci := 4) (v := .ref (f 1)) h0 hF inX5 hB 0 rfl rfl 0 (by decide) wf_X5_12 rfl rfl dX5_isCheaper_46 ?_
    refine g_get (ci := 5) (v := .ref (f 4)) h0 hF inX6 hB 1 rfl rfl 1 (by decide) wf_X5_117 rfl rfl dX5_isCheaper_49 ?_
    refine lv_iload_n hx hb dX5_isCheaper_52 rfl (lv_at hl 5 rfl) ?_
    refine g_iald hx hb hK hB 4 0 rfl rfl o (rfl) (by omega) (by decide) dX5_isCheaper_53 ?_
    refine lv_icmp_le (tgt := 61) hx hb dX5_isCheaper_54 (by decide) (fun c_54 => ?_) (fun c_54 => ?_)
    · have n_54 := Int32.not_lt.mpr c_54
      refine lv_iconst (v := 0) hx hb dX5_isCheaper_61 (by decide) ?_
      exact pm_zret hF dX5_isCheaper_62 rfl (by simp [bI, chB, c_20, c_54, n_54])
    · have n_54 := Int32.not_le.mp c_54
      refine lv_iconst (v := 1) hx hb dX5_isCheaper_57 (by decide) ?_
      refine lv_goto (tgt := 62) hx hb dX5_isCheaper_58 (by decide) ?_
      exact pm_zret hF dX5_isCheaper_62 rfl (by simp [bI, chB, c_20, c_54, n_54])
  · refine lv_iload hx hb dX5_isCheaper_23 (lv_at hl 1 rfl) ?_
    refine lv_iload hx hb dX5_isCheaper_25 (lv_at hl 0 rfl) ?_
    refine lv_icmp_ge (tgt := 34) hx hb dX5_isCheaper_27 (by decide) (fun c_27 => ?_) (fun c_27 => ?_)
    · have n_27 := Int32.not_lt.mpr c_27
      refine lv_iconst (v := 0) hx hb dX5_isCheaper_34 (by decide) ?_
      exact pm_zret hF dX5_isCheaper_35 rfl (by simp [bI, chB, c_20, c_27, n_27])
    · have n_27 := Int32.not_le.mp c_27
      refine lv_iconst (v := 1) hx hb dX5_isCheaper_30 (by decide) ?_
      refine lv_goto (tgt := 35) hx hb dX5_isCheaper_31 (by decide) ?_
      exact pm_zret hF dX5_isCheaper_35 rfl (by simp [bI, chB, c_20, c_27, n_27])

set_option maxHeartbeats 4000000 in
set_option maxRecDepth 100000 in
theorem m_X5_cheapestStar {X : Cx} {l : Launch} (h0 : Init X) {f : Nat → Nat} {k : Sk} (hO : Ok k)  (x : Int32) (r : Nat) (hxr : x = nI r) (hr : r < k.2 1) : PM X l yX5_cheapestStar cX5_cheapestStar 5 (some .int) 3 69 [.ref (f 0), .int x] (va_P X.D vwCl (skW X f k)) (.int (csR k r (k.2 0))) := by
  subst hxr
  refine Met.mk (Bh := va_P X.D vwCl (skW X f k)) (by decide) (Nat.le_of_ble_eq_true rfl) ?_
  intro p e s m below meth c ls hF hB hl
  have hl : lv_has ls 5 [(0, .ref (f 0)), (1, .int (nI r))] := hl
  obtain ⟨hx, hb, hml, hr, hlk, hown, hG⟩ := id hF
  have hK := hG.K h0
  have hS : va_S noA s.heap s.heap [] := va_S.rf
  have hO1 := hO.1
  have hO2 := hO.2.1
  have hO3 := hO.2.2.1
  refine lv_bipush (v := (-4)) hx hb dX5_cheapestStar_0 (by decide) ?_
  refine lv_istore_n (lv' := [(2, .int (-4)), (0, .ref (f 0)), (1, .int (nI r))]) hx hb dX5_cheapestStar_2 rfl hl (by decide) rfl (fun ls hl => ?_)
  refine lv_iconst (v := 0) hx hb dX5_cheapestStar_3 (by decide) ?_
  refine lv_istore_n (lv' := [(3, .int 0), (2, .int (-4)), (0, .ref (f 0)), (1, .int (nI r))]) hx hb dX5_cheapestStar_4 rfl hl (by decide) rfl (fun ls hl => ?_)
  have key_5 : ∀ (nf j : Nat), j + nf = k.2 0 → ∀ (ls : Array Slot), lv_has ls 5 [(0, .ref (f 0)), (1, .int (nI r)), (2, .int (csR k r j)), (3, .int (nI j))] → W p l e ({ frames := 3, cells := 0, slots := 0, locals := 69 } : Room) s m ([.ref (f 0), .int (nI r)] : List Value).toArray below meth c s.heap [] 0 0 (MQ below (qP (.int (csR k r (k.2 0)))) ([.ref (f 0), .int (nI r)] : List Value).toArray s 0 0 noA) (F0 m 5 ls []) := by
    intro nf
    induction nf with
    | zero =>
      intro j hj ls hl
      have hj_e : j = k.2 0 := by omega
      refine lv_iload_n hx hb dX5_cheapestStar_5 rfl (lv_at hl 3 rfl) ?_
      refine lv_aload_n hx hb dX5_cheapestStar_6 rfl (lv_at hl 0 rfl) ?_
      refine g_get (ci := 4) (v := .ref (f 1)) h0 hF inX5 hB 0 rfl rfl 0 (by decide) wf_X5_12 rfl rfl dX5_cheapestStar_7 ?_
      refine g_get (ci := 5) (v := .int (nI (k.2 0))) h0 hF inX6 hB 1 rfl rfl 0 (by decide) wf_X5_66 rfl rfl dX5_cheapestStar_10 ?_
      refine lv_icmp_ge (tgt := 79) hx hb dX5_cheapestStar_13 (by decide) (fun c_13 => ?_) (fun c_13 => absurd (nI_le (a := k.2 0) (b := j) (by omega) (by omega)) c_13)
      have n_13 := Int32.not_lt.mpr c_13
      refine lv_iload_n hx hb dX5_cheapestStar_79 rfl (lv_at hl 2 rfl) ?_
      exact pm_iret hF dX5_cheapestStar_80 (by rw [hj_e])
    | succ nf ih_5 =>
      intro j hj ls hl
      have hj_l : j < k.2 0 := by omega
      refine lv_iload_n hx hb dX5_cheapestStar_5 rfl (lv_at hl 3 rfl) ?_
      refine lv_aload_n hx hb dX5_cheapestStar_6 rfl (lv_at hl 0 rfl) ?_
      refine g_get (ci := 4) (v := .ref (f 1)) h0 hF inX5 hB 0 rfl rfl 0 (by decide) wf_X5_12 rfl rfl dX5_cheapestStar_7 ?_
      refine g_get (ci := 5) (v := .int (nI (k.2 0))) h0 hF inX6 hB 1 rfl rfl 0 (by decide) wf_X5_66 rfl rfl dX5_cheapestStar_10 ?_
      refine lv_icmp_ge (tgt := 79) hx hb dX5_cheapestStar_13 (by decide) (fun c_13 => absurd c_13 (nI_ge (a := j) (b := k.2 0) (by omega) (by omega))) (fun c_13 => ?_)
      have n_13 := Int32.not_le.mp c_13
      refine lv_aload_n hx hb dX5_cheapestStar_16 rfl (lv_at hl 0 rfl) ?_
      refine g_get (ci := 4) (v := .ref (f 1)) h0 hF inX5 hB 0 rfl rfl 0 (by decide) wf_X5_12 rfl rfl dX5_cheapestStar_17 ?_
      refine lv_iload_n hx hb dX5_cheapestStar_20 rfl (lv_at hl 3 rfl) ?_
      refine core_p (v := .int (bI (isSeen k j))) (grV (n := 1) (As := [.int (nI j)]) (rest := []) h0 hF (m_X6_isSeen h0 (f := f) (k := k) hO  (nI j) j rfl (by omega)) wm_X5_101 wo_X6_isSeen ws_X6__X6_isSeen wz_X6 wc_X6_isSeen ⟨by decide, by decide, by decide +kernel⟩ rfl ⟨Nat.le_of_ble_eq_true rfl, Nat.le_of_ble_eq_true rfl⟩ (ci := 5) ⟨_, hB 1 _ rfl⟩ rfl hB hS noA_old ⟨Nat.zero_le _, Nat.zero_le _⟩ hl.1 rfl (Nat.le_of_ble_eq_true rfl) dX5_cheapestStar_21) ?_
      refine lv_if_eq (tgt := 47) hx hb dX5_cheapestStar_24 (by decide) (fun c_24 => ?_) (fun c_24 => ?_)
      · have n_24 := bI_0.mp c_24
        refine lv_iconst (v := 0) hx hb dX5_cheapestStar_47 (by decide) ?_
        refine lv_istore (lv' := [(4, .int 0), (0, .ref (f 0)), (1, .int (nI r)), (2, .int (csR k r j)), (3, .int (nI j))]) hx hb dX5_cheapestStar_48 hl (by decide) rfl (fun ls hl => ?_)
        refine lv_iload hx hb dX5_cheapestStar_50 (lv_at hl 0 rfl) ?_
        refine lv_if_eq (tgt := 73) hx hb dX5_cheapestStar_52 (by decide) (fun c_52 => ?_) (fun c_52 => absurd c_52 (by decide))
        refine lv_iinc (v := nI (j + 1)) (lv' := [(3, .int (nI (j + 1))), (4, .int 0), (0, .ref (f 0)), (1, .int (nI r)), (2, .int (csR k r j))]) hx hb dX5_cheapestStar_73 hl (k := 4) rfl (nI_1 j) (by decide) rfl (fun ls hl => ?_)
        refine lv_goto (tgt := 5) hx hb dX5_cheapestStar_76 (by decide) ?_
        refine ih_5 (j + 1) (by omega) ls (lv_eqv (lv_sub (l' := [(0, .ref (f 0)), (1, .int (nI r)), (2, .int (csR k r j)), (3, .int (nI (j + 1)))]) hl [2, 3, 4, 0] rfl) ?_)
        rw [show (csR k r j) = (csR k r (j + 1)) from (by rw [csR]; simp [opB, bitI, c_13, n_13, n_24])]
      · have n_24 := bI_n0.mp c_24
        refine lv_aload_n hx hb dX5_cheapestStar_27 rfl (lv_at hl 0 rfl) ?_
        refine g_get (ci := 4) (v := .ref (f 2)) h0 hF inX5 hB 0 rfl rfl 1 (by decide) wf_X5_21 rfl rfl dX5_cheapestStar_28 ?_
        refine g_get (ci := 3) (v := .ref (f 16)) h0 hF inX4 hB 2 rfl rfl 8 (by decide) wf_X5_90 rfl rfl dX5_cheapestStar_31 ?_
        refine lv_iload_n hx hb dX5_cheapestStar_34 rfl (lv_at hl 1 rfl) ?_
        refine g_iald hx hb hK hB 16 0 rfl rfl r (rfl) (by omega) (by decide) dX5_cheapestStar_35 ?_
        refine lv_iconst (v := 1) hx hb dX5_cheapestStar_36 (by decide) ?_
        refine lv_iload_n hx hb dX5_cheapestStar_37 rfl (lv_at hl 3 rfl) ?_
        refine lv_ishl hx hb dX5_cheapestStar_38 ?_
        refine lv_iand hx hb dX5_cheapestStar_39 ?_
        refine lv_if_ne (tgt := 47) hx hb dX5_cheapestStar_40 (by decide) (fun c_40 => ?_) (fun c_40 => ?_)
        · refine lv_iconst (v := 0) hx hb dX5_cheapestStar_47 (by decide) ?_
          refine lv_istore (lv' := [(4, .int 0), (0, .ref (f 0)), (1, .int (nI r)), (2, .int (csR k r j)), (3, .int (nI j))]) hx hb dX5_cheapestStar_48 hl (by decide) rfl (fun ls hl => ?_)
          refine lv_iload hx hb dX5_cheapestStar_50 (lv_at hl 0 rfl) ?_
          refine lv_if_eq (tgt := 73) hx hb dX5_cheapestStar_52 (by decide) (fun c_52 => ?_) (fun c_52 => absurd c_52 (by decide))
          refine lv_iinc (v := nI (j + 1)) (lv' := [(3, .int (nI (j + 1))), (4, .int 0), (0, .ref (f 0)), (1, .int (nI r)), (2, .int (csR k r j))]) hx hb dX5_cheapestStar_73 hl (k := 4) rfl (nI_1 j) (by decide) rfl (fun ls hl => ?_)
          refine lv_goto (tgt := 5) hx hb dX5_cheapestStar_76 (by decide) ?_
          refine ih_5 (j + 1) (by omega) ls (lv_eqv (lv_sub (l' := [(0, .ref (f 0)), (1, .int (nI r)), (2, .int (csR k r j)), (3, .int (nI (j + 1)))]) hl [2, 3, 4, 0] rfl) ?_)
          rw [show (csR k r j) = (csR k r (j + 1)) from (by rw [csR]; simp [opB, bitI, c_13, n_13, n_24, c_40])]
        · refine lv_iconst (v := 1) hx hb dX5_cheapestStar_43 (by decide) ?_
          refine lv_goto (tgt := 48) hx hb dX5_cheapestStar_44 (by decide) ?_
          refine lv_istore (lv' := [(4, .int 1), (0, .ref (f 0)), (1, .int (nI r)), (2, .int (csR k r j)), (3, .int (nI j))]) hx hb dX5_cheapestStar_48 hl (by decide) rfl (fun ls hl => ?_)
          refine lv_iload hx hb dX5_cheapestStar_50 (lv_at hl 0 rfl) ?_
          refine lv_if_eq (tgt := 73) hx hb dX5_cheapestStar_52 (by decide) (fun c_52 => absurd c_52 (by decide)) (fun c_52 => ?_)
          refine lv_iload_n hx hb dX5_cheapestStar_55 rfl (lv_at hl 3 rfl) ?_
          refine lv_bipush (v := (-4)) hx hb dX5_cheapestStar_56 (by decide) ?_
          refine lv_icmp_eq (tgt := 71) hx hb dX5_cheapestStar_58 (by decide) (fun c_58 => ?_) (fun c_58 => ?_)
          · refine lv_iload_n hx hb dX5_cheapestStar_71 rfl (lv_at hl 4 rfl) ?_
            refine lv_istore_n (lv' := [(2, .int (nI j)), (4, .int 1), (0, .ref (f 0)), (1, .int (nI r)), (3, .int (nI j))]) hx hb dX5_cheapestStar_72 rfl hl (by decide) rfl (fun ls hl => ?_)
            refine lv_iinc (v := nI (j + 1)) (lv' := [(3, .int (nI (j + 1))), (2, .int (nI j)), (4, .int 1), (0, .ref (f 0)), (1, .int (nI r))]) hx hb dX5_cheapestStar_73 hl (k := 4) rfl (nI_1 j) (by decide) rfl (fun ls hl => ?_)
            refine lv_goto (tgt := 5) hx hb dX5_cheapestStar_76 (by decide) ?_
            refine ih_5 (j + 1) (by omega) ls (lv_eqv (lv_sub (l' := [(0, .ref (f 0)), (1, .int (nI r)), (2, .int (nI j)), (3, .int (nI (j + 1)))]) hl [3, 4, 1, 0] rfl) ?_)
            rw [show (nI j) = (csR k r (j + 1)) from (by rw [csR]; simp [opB, bitI, c_13, n_13, n_24, c_40, c_58])]
          · refine lv_aload_n hx hb dX5_cheapestStar_61 rfl (lv_at hl 1 rfl) ?_
            refine lv_iload_n hx hb dX5_cheapestStar_62 rfl (lv_at hl 2 rfl) ?_
            refine lv_iload_n hx hb dX5_cheapestStar_63 rfl (lv_at hl 4 rfl) ?_
            refine lv_iload_n hx hb dX5_cheapestStar_64 rfl (lv_at hl 3 rfl) ?_
            refine core_p (v := .int (bI (chB k r j (csR k r j).toNatClampNeg))) (grV (n := 3) (As := [.int (nI r), .int (nI j), .int (csR k r j)]) (rest := []) h0 hF (m_X5_isCheaper h0 (f := f) (k := k) hO  (nI r) r rfl (by omega) (nI j) j rfl (by omega) (csR k r j) (csR k r j).toNatClampNeg (csR_in k r j (by omega) c_58).1 (Nat.lt_trans (csR_in k r j (by omega) c_58).2 hj_l)) wm_X5_201 wo_X5_isCheaper ws_X5__X5_isCheaper wz_X5 wc_X5_isCheaper ⟨by decide, by decide, by decide +kernel⟩ rfl ⟨Nat.le_of_ble_eq_true rfl, Nat.le_of_ble_eq_true rfl⟩ (ci := 4) ⟨_, hB 0 _ rfl⟩ rfl hB hS noA_old ⟨Nat.zero_le _, Nat.zero_le _⟩ hl.1 rfl (Nat.le_of_ble_eq_true rfl) dX5_cheapestStar_65) ?_
            refine lv_if_eq (tgt := 73) hx hb dX5_cheapestStar_68 (by decide) (fun c_68 => ?_) (fun c_68 => ?_)
            · have n_68 := bI_0.mp c_68
              refine lv_iinc (v := nI (j + 1)) (lv' := [(3, .int (nI (j + 1))), (4, .int 1), (0, .ref (f 0)), (1, .int (nI r)), (2, .int (csR k r j))]) hx hb dX5_cheapestStar_73 hl (k := 4) rfl (nI_1 j) (by decide) rfl (fun ls hl => ?_)
              refine lv_goto (tgt := 5) hx hb dX5_cheapestStar_76 (by decide) ?_
              refine ih_5 (j + 1) (by omega) ls (lv_eqv (lv_sub (l' := [(0, .ref (f 0)), (1, .int (nI r)), (2, .int (csR k r j)), (3, .int (nI (j + 1)))]) hl [2, 3, 4, 0] rfl) ?_)
              rw [show (csR k r j) = (csR k r (j + 1)) from (by rw [csR]; simp [opB, bitI, c_13, n_13, n_24, c_40, c_58, n_68])]
            · have n_68 := bI_n0.mp c_68
              refine lv_iload_n hx hb dX5_cheapestStar_71 rfl (lv_at hl 4 rfl) ?_
              refine lv_istore_n (lv' := [(2, .int (nI j)), (4, .int 1), (0, .ref (f 0)), (1, .int (nI r)), (3, .int (nI j))]) hx hb dX5_cheapestStar_72 rfl hl (by decide) rfl (fun ls hl => ?_)
              refine lv_iinc (v := nI (j + 1)) (lv' := [(3, .int (nI (j + 1))), (2, .int (nI j)), (4, .int 1), (0, .ref (f 0)), (1, .int (nI r))]) hx hb dX5_cheapestStar_73 hl (k := 4) rfl (nI_1 j) (by decide) rfl (fun ls hl => ?_)
              refine lv_goto (tgt := 5) hx hb dX5_cheapestStar_76 (by decide) ?_
              refine ih_5 (j + 1) (by omega) ls (lv_eqv (lv_sub (l' := [(0, .ref (f 0)), (1, .int (nI r)), (2, .int (nI j)), (3, .int (nI (j + 1)))]) hl [3, 4, 1, 0] rfl) ?_)
              rw [show (nI j) = (csR k r (j + 1)) from (by rw [csR]; simp [opB, bitI, c_13, n_13, n_24, c_40, c_58, n_68])]
  exact key_5 (k.2 0) 0 (by omega) ls (lv_sub hl [2, 3, 1, 0] rfl)

set_option maxHeartbeats 4000000 in
set_option maxRecDepth 100000 in
theorem m_X5_isRicher {X : Cx} {l : Launch} (h0 : Init X) {f : Nat → Nat} {k : Sk} (hO : Ok k)  (x : Int32) (r : Nat) (hxr : x = nI r) (hr : r < k.2 1)(y : Int32) (j : Nat) (hxj : y = nI j) (hj : j < k.2 1) : PM X l yX5_isRicher cX5_isRicher 7 (some .boolean) 2 45 [.ref (f 0), .int x, .int y] (va_P X.D vwCl (skW X f k)) (.int (bI (riB k r j))) := by
  subst hxr
  subst hxj
  refine Met.mk (Bh := va_P X.D vwCl (skW X f k)) (by decide) (Nat.le_of_ble_eq_true rfl) ?_
  intro p e s m below meth c ls hF hB hl
  have hl : lv_has ls 7 [(0, .ref (f 0)), (1, .int (nI r)), (2, .int (nI j))] := hl
  obtain ⟨hx, hb, hml, hr, hlk, hown, hG⟩ := id hF
  have hK := hG.K h0
  have hS : va_S noA s.heap s.heap [] := va_S.rf
  have hO1 := hO.1
  have hO2 := hO.2.1
  have hO3 := hO.2.2.1
  refine lv_aload_n hx hb dX5_isRicher_0 rfl (lv_at hl 0 rfl) ?_
  refine g_get (ci := 4) (v := .ref (f 2)) h0 hF inX5 hB 0 rfl rfl 1 (by decide) wf_X5_21 rfl rfl dX5_isRicher_1 ?_
  refine g_get (ci := 3) (v := .ref (f 9)) h0 hF inX4 hB 2 rfl rfl 1 (by decide) wf_X5_120 rfl rfl dX5_isRicher_4 ?_
  refine lv_iload_n hx hb dX5_isRicher_7 rfl (lv_at hl 1 rfl) ?_
  refine g_iald hx hb hK hB 9 0 rfl rfl r (rfl) (by omega) (by decide) dX5_isRicher_8 ?_
  refine lv_aload_n hx hb dX5_isRicher_9 rfl (lv_at hl 0 rfl) ?_
  refine g_get (ci := 4) (v := .ref (f 2)) h0 hF inX5 hB 0 rfl rfl 1 (by decide) wf_X5_21 rfl rfl dX5_isRicher_10 ?_
  refine g_get (ci := 3) (v := .ref (f 10)) h0 hF inX4 hB 2 rfl rfl 2 (by decide) wf_X5_127 rfl rfl dX5_isRicher_13 ?_
  refine lv_iload_n hx hb dX5_isRicher_16 rfl (lv_at hl 1 rfl) ?_
  refine g_iald hx hb hK hB 10 0 rfl rfl r (rfl) (by omega) (by decide) dX5_isRicher_17 ?_
  refine lv_isub hx hb dX5_isRicher_18 ?_
  refine lv_istore_n (lv' := [(3, .int ((k.1 5 r) - (k.1 6 r))), (0, .ref (f 0)), (1, .int (nI r)), (2, .int (nI j))]) hx hb dX5_isRicher_19 rfl hl (by decide) rfl (fun ls hl => ?_)
  refine lv_aload_n hx hb dX5_isRicher_20 rfl (lv_at hl 1 rfl) ?_
  refine g_get (ci := 4) (v := .ref (f 2)) h0 hF inX5 hB 0 rfl rfl 1 (by decide) wf_X5_21 rfl rfl dX5_isRicher_21 ?_
  refine g_get (ci := 3) (v := .ref (f 9)) h0 hF inX4 hB 2 rfl rfl 1 (by decide) wf_X5_120 rfl rfl dX5_isRicher_24 ?_
  refine lv_iload_n hx hb dX5_isRicher_27 rfl (lv_at hl 3 rfl) ?_
  refine g_iald hx hb hK hB 9 0 rfl rfl j (rfl) (by omega) (by decide) dX5_isRicher_28 ?_
  refine lv_aload_n hx hb dX5_isRicher_29 rfl (lv_at hl 1 rfl) ?_
  refine g_get (ci := 4) (v := .ref (f 2)) h0 hF inX5 hB 0 rfl rfl 1 (by decide) wf_X5_21 rfl rfl dX5_isRicher_30 ?_
  refine g_get (ci := 3) (v := .ref (f 10)) h0 hF inX4 hB 2 rfl rfl 2 (by decide) wf_X5_127 rfl rfl dX5_isRicher_33 ?_
  refine lv_iload_n hx hb dX5_isRicher_36 rfl (lv_at hl 3 rfl) ?_
  refine g_iald hx hb hK hB 10 0 rfl rfl j (rfl) (by omega) (by decide) dX5_isRicher_37 ?_
  refine lv_isub hx hb dX5_isRicher_38 ?_
  refine lv_istore (lv' := [(4, .int ((k.1 5 j) - (k.1 6 j))), (3, .int ((k.1 5 r) - (k.1 6 r))), (0, .ref (f 0)), (1, .int (nI r)), (2, .int (nI j))]) hx hb dX5_isRicher_39 hl (by decide) rfl (fun ls hl => ?_)
  refine lv_iload_n hx hb dX5_isRicher_41 rfl (lv_at hl 1 rfl) ?_
  refine lv_iload hx hb dX5_isRicher_42 (lv_at hl 0 rfl) ?_
  refine lv_icmp_eq (tgt := 59) hx hb dX5_isRicher_44 (by decide) (fun c_44 => ?_) (fun c_44 => ?_)
  · refine lv_aload_n hx hb dX5_isRicher_59 rfl (lv_at hl 2 rfl) ?_
    refine g_get (ci := 4) (v := .ref (f 3)) h0 hF inX5 hB 0 rfl rfl 2 (by decide) wf_X5_28 rfl rfl dX5_isRicher_60 ?_
    refine lv_iload_n hx hb dX5_isRicher_63 rfl (lv_at hl 3 rfl) ?_
    refine core_p (v := .int (nI (cN (fun z => decide (k.1 14 z = (nI r))) (k.2 2)))) (grV (n := 1) (As := [.int (nI r)]) (rest := []) h0 hF (m_X7_countOf h0 (f := f) (k := k) hO  (nI r)) wm_X5_139 wo_X7_countOf ws_X7__X7_countOf wz_X7 wc_X7_countOf ⟨by decide, by decide, by decide +kernel⟩ rfl ⟨Nat.le_of_ble_eq_true rfl, Nat.le_of_ble_eq_true rfl⟩ (ci := 6) ⟨_, hB 3 _ rfl⟩ rfl hB hS noA_old ⟨Nat.zero_le _, Nat.zero_le _⟩ hl.1 rfl (Nat.le_of_ble_eq_true rfl) dX5_isRicher_64) ?_
    refine lv_istore (lv' := [(5, .int (nI (cN (fun z => decide (k.1 14 z = (nI r))) (k.2 2)))), (4, .int ((k.1 5 j) - (k.1 6 j))), (3, .int ((k.1 5 r) - (k.1 6 r))), (0, .ref (f 0)), (1, .int (nI r)), (2, .int (nI j))]) hx hb dX5_isRicher_67 hl (by decide) rfl (fun ls hl => ?_)
    refine lv_aload_n hx hb dX5_isRicher_69 rfl (lv_at hl 3 rfl) ?_
    refine g_get (ci := 4) (v := .ref (f 3)) h0 hF inX5 hB 0 rfl rfl 2 (by decide) wf_X5_28 rfl rfl dX5_isRicher_70 ?_
    refine lv_iload_n hx hb dX5_isRicher_73 rfl (lv_at hl 5 rfl) ?_
    refine core_p (v := .int (nI (cN (fun z => decide (k.1 14 z = (nI j))) (k.2 2)))) (grV (n := 1) (As := [.int (nI j)]) (rest := []) h0 hF (m_X7_countOf h0 (f := f) (k := k) hO  (nI j)) wm_X5_139 wo_X7_countOf ws_X7__X7_countOf wz_X7 wc_X7_countOf ⟨by decide, by decide, by decide +kernel⟩ rfl ⟨Nat.le_of_ble_eq_true rfl, Nat.le_of_ble_eq_true rfl⟩ (ci := 6) ⟨_, hB 3 _ rfl⟩ rfl hB hS noA_old ⟨Nat.zero_le _, Nat.zero_le _⟩ hl.1 rfl (Nat.le_of_ble_eq_true rfl) dX5_isRicher_74) ?_
    refine lv_istore (lv' := [(6, .int (nI (cN (fun z => decide (k.1 14 z = (nI j))) (k.2 2)))), (5, .int (nI (cN (fun z => decide (k.1 14 z = (nI r))) (k.2 2)))), (4, .int ((k.1 5 j) - (k.1 6 j))), (3, .int ((k.1 5 r) - (k.1 6 r))), (0, .ref (f 0)), (1, .int (nI r)), (2, .int (nI j))]) hx hb dX5_isRicher_77 hl (by decide) rfl (fun ls hl => ?_)
    refine lv_iload hx hb dX5_isRicher_79 (lv_at hl 1 rfl) ?_
    refine lv_iload hx hb dX5_isRicher_81 (lv_at hl 0 rfl) ?_
    refine lv_icmp_eq (tgt := 99) hx hb dX5_isRicher_83 (by decide) (fun c_83 => ?_) (fun c_83 => ?_)
    · refine lv_iload_n hx hb dX5_isRicher_99 rfl (lv_at hl 5 rfl) ?_
      refine lv_iload_n hx hb dX5_isRicher_100 rfl (lv_at hl 6 rfl) ?_
      refine lv_icmp_ge (tgt := 108) hx hb dX5_isRicher_101 (by decide) (fun c_101 => ?_) (fun c_101 => ?_)
      · have n_101 := Int32.not_lt.mpr c_101
        refine lv_iconst (v := 0) hx hb dX5_isRicher_108 (by decide) ?_
        exact pm_zret hF dX5_isRicher_109 rfl (by simp [bI, riB, cWr, c_44, c_83, c_101, n_101])
      · have n_101 := Int32.not_le.mp c_101
        refine lv_iconst (v := 1) hx hb dX5_isRicher_104 (by decide) ?_
        refine lv_goto (tgt := 109) hx hb dX5_isRicher_105 (by decide) ?_
        exact pm_zret hF dX5_isRicher_109 rfl (by simp [bI, riB, cWr, c_44, c_83, c_101, n_101])
    · refine lv_iload hx hb dX5_isRicher_86 (lv_at hl 1 rfl) ?_
      refine lv_iload hx hb dX5_isRicher_88 (lv_at hl 0 rfl) ?_
      refine lv_icmp_ge (tgt := 97) hx hb dX5_isRicher_90 (by decide) (fun c_90 => ?_) (fun c_90 => ?_)
      · have n_90 := Int32.not_lt.mpr c_90
        refine lv_iconst (v := 0) hx hb dX5_isRicher_97 (by decide) ?_
        exact pm_zret hF dX5_isRicher_98 rfl (by simp [bI, riB, cWr, c_44, c_83, c_90, n_90])
      · have n_90 := Int32.not_le.mp c_90
        refine lv_iconst (v := 1) hx hb dX5_isRicher_93 (by decide) ?_
        refine lv_goto (tgt := 98) hx hb dX5_isRicher_94 (by decide) ?_
        exact pm_zret hF dX5_isRicher_98 rfl (by simp [bI, riB, cWr, c_44, c_83, c_90, n_90])
  · refine lv_iload_n hx hb dX5_isRicher_47 rfl (lv_at hl 1 rfl) ?_
    refine lv_iload hx hb dX5_isRicher_48 (lv_at hl 0 rfl) ?_
    refine lv_icmp_le (tgt := 57) hx hb dX5_isRicher_50 (by decide) (fun c_50 => ?_) (fun c_50 => ?_)
    · have n_50 := Int32.not_lt.mpr c_50
      refine lv_iconst (v := 0) hx hb dX5_isRicher_57 (by decide) ?_
      exact pm_zret hF dX5_isRicher_58 rfl (by simp [bI, riB, cWr, c_44, c_50, n_50])
    · have n_50 := Int32.not_le.mp c_50
      refine lv_iconst (v := 1) hx hb dX5_isRicher_53 (by decide) ?_
      refine lv_goto (tgt := 58) hx hb dX5_isRicher_54 (by decide) ?_
      exact pm_zret hF dX5_isRicher_58 rfl (by simp [bI, riB, cWr, c_44, c_50, n_50])

set_option maxHeartbeats 4000000 in
set_option maxRecDepth 100000 in
theorem m_X5_roofAtPlace {X : Cx} {l : Launch} (h0 : Init X) {f : Nat → Nat} {k : Sk} (hO : Ok k)  (q : Int32) : PM X l yX5_roofAtPlace cX5_roofAtPlace 5 (some .int) 3 71 [.ref (f 0), .int q] (va_P X.D vwCl (skW X f k)) (.int (fnd (fun z => decide (nI (rankR k z) = q)) (-1) (k.2 1) 0)) := by
  refine Met.mk (Bh := va_P X.D vwCl (skW X f k)) (by decide) (Nat.le_of_ble_eq_true rfl) ?_
  intro p e s m below meth c ls hF hB hl
  have hl : lv_has ls 5 [(0, .ref (f 0)), (1, .int q)] := hl
  obtain ⟨hx, hb, hml, hr, hlk, hown, hG⟩ := id hF
  have hK := hG.K h0
  have hS : va_S noA s.heap s.heap [] := va_S.rf
  have hO1 := hO.1
  have hO2 := hO.2.1
  have hO3 := hO.2.2.1
  refine lv_iconst (v := 0) hx hb dX5_roofAtPlace_0 (by decide) ?_
  refine lv_istore_n (lv' := [(2, .int 0), (0, .ref (f 0)), (1, .int q)]) hx hb dX5_roofAtPlace_1 rfl hl (by decide) rfl (fun ls hl => ?_)
  have key_2 : ∀ (nf j : Nat), j + nf = k.2 1 → fnd (fun z => decide (nI (rankR k z) = q)) (-1) (k.2 1) 0 = fnd (fun z => decide (nI (rankR k z) = q)) (-1) nf j → ∀ (ls : Array Slot), lv_has ls 5 [(0, .ref (f 0)), (1, .int q), (2, .int (nI j))] → W p l e ({ frames := 3, cells := 0, slots := 0, locals := 71 } : Room) s m ([.ref (f 0), .int q] : List Value).toArray below meth c s.heap [] 0 0 (MQ below (qP (.int (fnd (fun z => decide (nI (rankR k z) = q)) (-1) (k.2 1) 0))) ([.ref (f 0), .int q] : List Value).toArray s 0 0 noA) (F0 m 2 ls []) := by
    intro nf
    induction nf with
    | zero =>
      intro j hj hx_j ls hl
      have hj_e : j = k.2 1 := by omega
      refine lv_iload_n hx hb dX5_roofAtPlace_2 rfl (lv_at hl 2 rfl) ?_
      refine lv_aload_n hx hb dX5_roofAtPlace_3 rfl (lv_at hl 0 rfl) ?_
      refine g_get (ci := 4) (v := .ref (f 2)) h0 hF inX5 hB 0 rfl rfl 1 (by decide) wf_X5_21 rfl rfl dX5_roofAtPlace_4 ?_
      refine g_get (ci := 3) (v := .int (nI (k.2 1))) h0 hF inX4 hB 2 rfl rfl 0 (by decide) wf_X5_78 rfl rfl dX5_roofAtPlace_7 ?_
      refine lv_icmp_ge (tgt := 62) hx hb dX5_roofAtPlace_10 (by decide) (fun c_10 => ?_) (fun c_10 => absurd (nI_le (a := k.2 1) (b := j) (by omega) (by omega)) c_10)
      have n_10 := Int32.not_lt.mpr c_10
      refine lv_iconst (v := (-1)) hx hb dX5_roofAtPlace_62 (by decide) ?_
      exact pm_iret hF dX5_roofAtPlace_63 (by rw [hx_j]; rfl)
    | succ nf ih_2 =>
      intro j hj hx_j ls hl
      have hj_l : j < k.2 1 := by omega
      refine lv_iload_n hx hb dX5_roofAtPlace_2 rfl (lv_at hl 2 rfl) ?_
      refine lv_aload_n hx hb dX5_roofAtPlace_3 rfl (lv_at hl 0 rfl) ?_
      refine g_get (ci := 4) (v := .ref (f 2)) h0 hF inX5 hB 0 rfl rfl 1 (by decide) wf_X5_21 rfl rfl dX5_roofAtPlace_4 ?_
      refine g_get (ci := 3) (v := .int (nI (k.2 1))) h0 hF inX4 hB 2 rfl rfl 0 (by decide) wf_X5_78 rfl rfl dX5_roofAtPlace_7 ?_
      refine lv_icmp_ge (tgt := 62) hx hb dX5_roofAtPlace_10 (by decide) (fun c_10 => absurd c_10 (nI_ge (a := j) (b := k.2 1) (by omega) (by omega))) (fun c_10 => ?_)
      have n_10 := Int32.not_le.mp c_10
      refine lv_iconst (v := 0) hx hb dX5_roofAtPlace_13 (by decide) ?_
      refine lv_istore_n (lv' := [(3, .int 0), (0, .ref (f 0)), (1, .int q), (2, .int (nI j))]) hx hb dX5_roofAtPlace_14 rfl hl (by decide) rfl (fun ls hl => ?_)
      refine lv_iconst (v := 0) hx hb dX5_roofAtPlace_15 (by decide) ?_
      refine lv_istore (lv' := [(4, .int 0), (3, .int 0), (0, .ref (f 0)), (1, .int q), (2, .int (nI j))]) hx hb dX5_roofAtPlace_16 hl (by decide) rfl (fun ls hl => ?_)
      have key_18 : ∀ (nf i : Nat), i + nf = k.2 1 → ∀ (ls : Array Slot), lv_has ls 5 [(0, .ref (f 0)), (1, .int q), (2, .int (nI j)), (3, .int (nI (cN (fun z => riB k z j) i))), (4, .int (nI i))] → W p l e ({ frames := 3, cells := 0, slots := 0, locals := 71 } : Room) s m ([.ref (f 0), .int q] : List Value).toArray below meth c s.heap [] 0 0 (MQ below (qP (.int (fnd (fun z => decide (nI (rankR k z) = q)) (-1) (k.2 1) 0))) ([.ref (f 0), .int q] : List Value).toArray s 0 0 noA) (F0 m 18 ls []) := by
        intro nf
        induction nf with
        | zero =>
          intro i hi ls hl
          have hi_e : i = k.2 1 := by omega
          refine lv_iload hx hb dX5_roofAtPlace_18 (lv_at hl 4 rfl) ?_
          refine lv_aload_n hx hb dX5_roofAtPlace_20 rfl (lv_at hl 0 rfl) ?_
          refine g_get (ci := 4) (v := .ref (f 2)) h0 hF inX5 hB 0 rfl rfl 1 (by decide) wf_X5_21 rfl rfl dX5_roofAtPlace_21 ?_
          refine g_get (ci := 3) (v := .int (nI (k.2 1))) h0 hF inX4 hB 2 rfl rfl 0 (by decide) wf_X5_78 rfl rfl dX5_roofAtPlace_24 ?_
          refine lv_icmp_ge (tgt := 49) hx hb dX5_roofAtPlace_27 (by decide) (fun c_27 => ?_) (fun c_27 => absurd (nI_le (a := k.2 1) (b := i) (by omega) (by omega)) c_27)
          have n_27 := Int32.not_lt.mpr c_27
          refine lv_iload_n hx hb dX5_roofAtPlace_49 rfl (lv_at hl 3 rfl) ?_
          refine lv_iload_n hx hb dX5_roofAtPlace_50 rfl (lv_at hl 1 rfl) ?_
          refine lv_icmp_ne (tgt := 56) hx hb dX5_roofAtPlace_51 (by decide) (fun c_51 => ?_) (fun c_51 => ?_)
          · refine lv_iinc (v := nI (j + 1)) (lv' := [(2, .int (nI (j + 1))), (0, .ref (f 0)), (1, .int q), (3, .int (nI (cN (fun z => riB k z j) i))), (4, .int (nI i))]) hx hb dX5_roofAtPlace_56 hl (k := 2) rfl (nI_1 j) (by decide) rfl (fun ls hl => ?_)
            refine lv_goto (tgt := 2) hx hb dX5_roofAtPlace_59 (by decide) ?_
            refine ih_2 (j + 1) (by omega) (by rw [hx_j, fnd, if_neg (fun h9 => c_51 (by have h8 := of_decide_eq_true h9; rw [rankR, ← hi_e] at h8; exact h8))]) ls (lv_eqv (lv_sub (l' := [(0, .ref (f 0)), (1, .int q), (2, .int (nI (j + 1)))]) hl [1, 2, 0] rfl) ?_)
            rfl
          · refine lv_iload_n hx hb dX5_roofAtPlace_54 rfl (lv_at hl 2 rfl) ?_
            exact pm_iret hF dX5_roofAtPlace_55 (by rw [hx_j, fnd, if_pos (decide_eq_true (by rw [rankR, ← hi_e]; exact c_51))])
        | succ nf ih_18 =>
          intro i hi ls hl
          have hi_l : i < k.2 1 := by omega
          refine lv_iload hx hb dX5_roofAtPlace_18 (lv_at hl 4 rfl) ?_
          refine lv_aload_n hx hb dX5_roofAtPlace_20 rfl (lv_at hl 0 rfl) ?_
          refine g_get (ci := 4) (v := .ref (f 2)) h0 hF inX5 hB 0 rfl rfl 1 (by decide) wf_X5_21 rfl rfl dX5_roofAtPlace_21 ?_
          refine g_get (ci := 3) (v := .int (nI (k.2 1))) h0 hF inX4 hB 2 rfl rfl 0 (by decide) wf_X5_78 rfl rfl dX5_roofAtPlace_24 ?_
          refine lv_icmp_ge (tgt := 49) hx hb dX5_roofAtPlace_27 (by decide) (fun c_27 => absurd c_27 (nI_ge (a := i) (b := k.2 1) (by omega) (by omega))) (fun c_27 => ?_)
          have n_27 := Int32.not_le.mp c_27
          refine lv_aload_n hx hb dX5_roofAtPlace_30 rfl (lv_at hl 0 rfl) ?_
          refine lv_iload hx hb dX5_roofAtPlace_31 (lv_at hl 4 rfl) ?_
          refine lv_iload_n hx hb dX5_roofAtPlace_33 rfl (lv_at hl 2 rfl) ?_
          refine core_p (v := .int (bI (riB k i j))) (grV (n := 2) (As := [.int (nI i), .int (nI j)]) (rest := []) h0 hF (m_X5_isRicher h0 (f := f) (k := k) hO  (nI i) i rfl (by omega) (nI j) j rfl (by omega)) wm_X5_204 wo_X5_isRicher ws_X5__X5_isRicher wz_X5 wc_X5_isRicher ⟨by decide, by decide, by decide +kernel⟩ rfl ⟨Nat.le_of_ble_eq_true rfl, Nat.le_of_ble_eq_true rfl⟩ (ci := 4) ⟨_, hB 0 _ rfl⟩ rfl hB hS noA_old ⟨Nat.zero_le _, Nat.zero_le _⟩ hl.1 rfl (Nat.le_of_ble_eq_true rfl) dX5_roofAtPlace_34) ?_
          refine lv_if_eq (tgt := 43) hx hb dX5_roofAtPlace_37 (by decide) (fun c_37 => ?_) (fun c_37 => ?_)
          · have n_37 := bI_0.mp c_37
            refine lv_iinc (v := nI (i + 1)) (lv' := [(4, .int (nI (i + 1))), (0, .ref (f 0)), (1, .int q), (2, .int (nI j)), (3, .int (nI (cN (fun z => riB k z j) i)))]) hx hb dX5_roofAtPlace_43 hl (k := 4) rfl (nI_1 i) (by decide) rfl (fun ls hl => ?_)
            refine lv_goto (tgt := 18) hx hb dX5_roofAtPlace_46 (by decide) ?_
            refine ih_18 (i + 1) (by omega) ls (lv_eqv (lv_sub (l' := [(0, .ref (f 0)), (1, .int q), (2, .int (nI j)), (3, .int (nI (cN (fun z => riB k z j) i))), (4, .int (nI (i + 1)))]) hl [1, 2, 3, 4, 0] rfl) ?_)
            rw [show (nI (cN (fun z => riB k z j) i)) = (nI (cN (fun z => riB k z j) (i + 1))) from (congrArg nI (cN_f (by simp [c_10, n_10, c_27, n_27, n_37])).symm)]
          · have n_37 := bI_n0.mp c_37
            refine lv_iinc (v := nI ((cN (fun z => riB k z j) i) + 1)) (lv' := [(3, .int (nI ((cN (fun z => riB k z j) i) + 1))), (0, .ref (f 0)), (1, .int q), (2, .int (nI j)), (4, .int (nI i))]) hx hb dX5_roofAtPlace_40 hl (k := 3) rfl (nI_1 (cN (fun z => riB k z j) i)) (by decide) rfl (fun ls hl => ?_)
            refine lv_iinc (v := nI (i + 1)) (lv' := [(4, .int (nI (i + 1))), (3, .int (nI ((cN (fun z => riB k z j) i) + 1))), (0, .ref (f 0)), (1, .int q), (2, .int (nI j))]) hx hb dX5_roofAtPlace_43 hl (k := 4) rfl (nI_1 i) (by decide) rfl (fun ls hl => ?_)
            refine lv_goto (tgt := 18) hx hb dX5_roofAtPlace_46 (by decide) ?_
            refine ih_18 (i + 1) (by omega) ls (lv_eqv (lv_sub (l' := [(0, .ref (f 0)), (1, .int q), (2, .int (nI j)), (3, .int (nI ((cN (fun z => riB k z j) i) + 1))), (4, .int (nI (i + 1)))]) hl [2, 3, 4, 1, 0] rfl) ?_)
            rw [show (nI ((cN (fun z => riB k z j) i) + 1)) = (nI (cN (fun z => riB k z j) (i + 1))) from (congrArg nI (cN_t (by simp [c_10, n_10, c_27, n_27, n_37])).symm)]
      exact key_18 (k.2 1) 0 (by omega) ls (lv_sub hl [2, 3, 4, 1, 0] rfl)
  exact key_2 (k.2 1) 0 (by omega) (rfl) ls (lv_sub hl [1, 2, 0] rfl)
