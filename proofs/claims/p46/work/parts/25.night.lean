set_option maxHeartbeats 4000000 in
set_option maxRecDepth 100000 in
theorem m_X5_staysAtDawn {X : Cx} {l : Launch} (h0 : Init X) {ow : Nat → Nat} {t : Nat} {f : Nat → Nat} {k : Sk} (hO : Ok k) (hz : ∀ q, ow q = t → X.z ≤ q) (x : Int32) (w : Nat) (hxw : x = nI w) (hw : w < k.2 2) : MM X l yX5_staysAtDawn cX5_staysAtDawn 3 (some .boolean) 2 42 0 0 [.ref (f 0), .int x] (Tw X ow t (skW X f k)) (fun v H => v = some (.int (bI (stD k w).1)) ∧ Tw X ow t (skW X f ((stD k w).2)) H) (fun q => ow q = t) := by
  subst hxw
  refine Met.mk (Bh := (Tw X ow t (skW X f k))) (by decide) (Nat.le_of_ble_eq_true rfl) ?_
  intro p e s m below meth c ls hF hB hl
  have hT := hB
  have hl : lv_has ls 3 [(0, .ref (f 0)), (1, .int (nI w))] := hl
  obtain ⟨hx, hb, hml, hr, hlk, hown, hG⟩ := id hF
  have hK := hG.K h0
  have hS : va_S (fun q => ow q = t) s.heap s.heap [] := va_S.rf
  have hO1 := hO.1
  have hO2 := hO.2.1
  have hO3 := hO.2.2.1
  have hAo : ∀ q, q < X.z → ¬ (fun q => ow q = t) q := fun q h9 (h8 : ow q = t) => absurd (hz q h8) (by omega)
  have hw1 := hO.2.2.2.2.1 w hw
  have hw2 := hw1.2
  refine lv_aload_n hx hb dX5_staysAtDawn_0 rfl (lv_at hl 0 rfl) ?_
  refine g_get (ci := 4) (v := .ref (f 3)) h0 hF inX5 hT.1 0 rfl rfl 2 (by decide) wf_X5_28 rfl rfl dX5_staysAtDawn_1 ?_
  refine g_get (ci := 6) (v := .ref (f 18)) h0 hF inX7 hT.1 3 rfl rfl 1 (by decide) wf_X5_155 rfl rfl dX5_staysAtDawn_4 ?_
  refine lv_iload_n hx hb dX5_staysAtDawn_7 rfl (lv_at hl 1 rfl) ?_
  refine g_iald hx hb hK hT.1 18 0 rfl rfl w (rfl) (by omega) (by decide) dX5_staysAtDawn_8 ?_
  refine lv_istore_n (lv' := [(2, .int (k.1 14 w)), (0, .ref (f 0)), (1, .int (nI w))]) hx hb dX5_staysAtDawn_9 rfl hl (by decide) rfl (fun ls hl => ?_)
  refine lv_aload_n hx hb dX5_staysAtDawn_10 rfl (lv_at hl 1 rfl) ?_
  refine lv_iload_n hx hb dX5_staysAtDawn_11 rfl (lv_at hl 2 rfl) ?_
  refine core_p (v := .int (bI (grB k w))) (grV (n := 1) (As := [.int (nI w)]) (rest := []) h0 hF (m_X5_isGrantable h0 (f := f) (k := k) hO  (nI w) w rfl (by omega)) wm_X5_178 wo_X5_isGrantable ws_X5__X5_isGrantable wz_X5 wc_X5_isGrantable ⟨by decide, by decide, by decide +kernel⟩ rfl ⟨Nat.le_of_ble_eq_true rfl, Nat.le_of_ble_eq_true rfl⟩ (ci := 4) ⟨_, hT.1 0 _ rfl⟩ rfl hT.1 hS hAo ⟨Nat.le_of_ble_eq_true rfl, Nat.le_of_ble_eq_true rfl⟩ hl.1 rfl (Nat.le_of_ble_eq_true rfl) dX5_staysAtDawn_12) ?_
  refine lv_if_eq (tgt := 33) hx hb dX5_staysAtDawn_15 (by decide) (fun c_15 => ?_) (fun c_15 => ?_)
  · have n_15 := bI_0.mp c_15
    refine lv_aload_n hx hb dX5_staysAtDawn_33 rfl (lv_at hl 1 rfl) ?_
    refine g_get (ci := 4) (v := .ref (f 3)) h0 hF inX5 hT.1 0 rfl rfl 2 (by decide) wf_X5_28 rfl rfl dX5_staysAtDawn_34 ?_
    refine lv_iload_n hx hb dX5_staysAtDawn_37 rfl (lv_at hl 2 rfl) ?_
    refine core_p (v := .int (bI (isImp k w))) (grV (n := 1) (As := [.int (nI w)]) (rest := []) h0 hF (m_X7_isImpounded h0 (f := f) (k := k) hO  (nI w) w rfl (by omega)) wm_X5_149 wo_X7_isImpounded ws_X7__X7_isImpounded wz_X7 wc_X7_isImpounded ⟨by decide, by decide, by decide +kernel⟩ rfl ⟨Nat.le_of_ble_eq_true rfl, Nat.le_of_ble_eq_true rfl⟩ (ci := 6) ⟨_, hT.1 3 _ rfl⟩ rfl hT.1 hS hAo ⟨Nat.le_of_ble_eq_true rfl, Nat.le_of_ble_eq_true rfl⟩ hl.1 rfl (Nat.le_of_ble_eq_true rfl) dX5_staysAtDawn_38) ?_
    refine lv_if_ne (tgt := 59) hx hb dX5_staysAtDawn_41 (by decide) (fun c_41 => ?_) (fun c_41 => ?_)
    · have n_41 := bI_n0.mp c_41
      refine lv_aload_n hx hb dX5_staysAtDawn_59 rfl (lv_at hl 1 rfl) ?_
      refine g_get (ci := 4) (v := .ref (f 3)) h0 hF inX5 hT.1 0 rfl rfl 2 (by decide) wf_X5_28 rfl rfl dX5_staysAtDawn_60 ?_
      refine g_get (ci := 6) (v := .ref (f 22)) h0 hF inX7 hT.1 3 rfl rfl 5 (by decide) wf_X5_145 rfl rfl dX5_staysAtDawn_63 ?_
      refine lv_iload_n hx hb dX5_staysAtDawn_66 rfl (lv_at hl 2 rfl) ?_
      refine lv_dup2_11 hx hb dX5_staysAtDawn_67 rfl rfl ?_
      refine g_iald hx hb hK hT.1 22 0 rfl rfl w (rfl) (by omega) (by decide) dX5_staysAtDawn_68 ?_
      refine lv_iconst (v := 1) hx hb dX5_staysAtDawn_69 (by decide) ?_
      refine lv_iadd hx hb dX5_staysAtDawn_70 ?_
      have htg := hT.tag 22 rfl
      refine g_iast hx hb hK hT hS (htg) 22 0 rfl rfl w (rfl) (by omega) (by decide) dX5_staysAtDawn_71 (fun H locs oq hT' hS => ?_)
      have hT : Tw X ow t (skW X f (sU k 18 w ((k.1 18 w) + 1))) H := hT'.to (skS_18 X f k w ((k.1 18 w) + 1))
      refine lv_aload_n hx hb dX5_staysAtDawn_72 rfl (lv_at hl 1 rfl) ?_
      refine g_get (ci := 4) (v := .ref (f 3)) h0 hF inX5 hT.1 0 rfl rfl 2 (by decide) wf_X5_28 rfl rfl dX5_staysAtDawn_73 ?_
      refine g_get (ci := 6) (v := .ref (f 22)) h0 hF inX7 hT.1 3 rfl rfl 5 (by decide) wf_X5_145 rfl rfl dX5_staysAtDawn_76 ?_
      refine lv_iload_n hx hb dX5_staysAtDawn_79 rfl (lv_at hl 2 rfl) ?_
      refine g_iald hx hb hK hT.1 22 0 rfl rfl w (rfl) (by omega) (by decide) dX5_staysAtDawn_80 ?_
      refine lv_topE (y := k.1 18 w + 1) (sU_self _ _ _ _) ?_
      refine lv_iconst (v := 3) hx hb dX5_staysAtDawn_81 (by decide) ?_
      refine lv_icmp_ge (tgt := 87) hx hb dX5_staysAtDawn_82 (by decide) (fun c_82 => ?_) (fun c_82 => ?_)
      · have n_82 := Int32.not_lt.mpr c_82
        refine lv_aload_n hx hb dX5_staysAtDawn_87 rfl (lv_at hl 1 rfl) ?_
        refine g_get (ci := 4) (v := .ref (f 2)) h0 hF inX5 hT.1 0 rfl rfl 1 (by decide) wf_X5_21 rfl rfl dX5_staysAtDawn_88 ?_
        refine g_get (ci := 3) (v := .ref (f 15)) h0 hF inX4 hT.1 2 rfl rfl 7 (by decide) wf_X5_184 rfl rfl dX5_staysAtDawn_91 ?_
        refine lv_iload_n hx hb dX5_staysAtDawn_94 rfl (lv_at hl 0 rfl) ?_
        refine lv_dup2_11 hx hb dX5_staysAtDawn_95 rfl rfl ?_
        refine g_iald hx hb hK hT.1 15 0 rfl rfl (wR k w) (hw1.1) (by omega) (by decide) dX5_staysAtDawn_96 ?_
        refine lv_iconst (v := 1) hx hb dX5_staysAtDawn_97 (by decide) ?_
        refine lv_iadd hx hb dX5_staysAtDawn_98 ?_
        have htg := hT.tag 15 rfl
        refine g_iast hx hb hK hT hS (htg) 15 0 rfl rfl (wR k w) (hw1.1) (by omega) (by decide) dX5_staysAtDawn_99 (fun H locs oq hT' hS => ?_)
        have hT : Tw X ow t (skW X f (sU (sU k 18 w ((k.1 18 w) + 1)) 11 (wR k w) ((k.1 11 (wR k w)) + 1))) H := hT'.to (skS_11 X f (sU k 18 w ((k.1 18 w) + 1)) (wR k w) ((k.1 11 (wR k w)) + 1))
        refine lv_iconst (v := 0) hx hb dX5_staysAtDawn_100 (by decide) ?_
        exact mm_zret hF hS dX5_staysAtDawn_101 rfl (by have e9 : stD k w = (false, sU (sU k 18 w ((k.1 18 w) + 1)) 11 (wR k w) ((k.1 11 (wR k w)) + 1)) := (by simp only [stD, n_15, n_41, c_82, n_82, if_true, if_false, Bool.false_eq_true, reduceIte]); exact ⟨by rw [e9]; rfl, by rw [e9]; exact hT⟩)
      · have n_82 := Int32.not_le.mp c_82
        refine lv_iconst (v := 1) hx hb dX5_staysAtDawn_85 (by decide) ?_
        exact mm_zret hF hS dX5_staysAtDawn_86 rfl (by have e9 : stD k w = (true, sU k 18 w ((k.1 18 w) + 1)) := (by simp only [stD, n_15, n_41, c_82, n_82, if_true, if_false, Bool.false_eq_true, reduceIte]); exact ⟨by rw [e9]; rfl, by rw [e9]; exact hT⟩)
    · have n_41 := bI_0.mp c_41
      refine lv_aload_n hx hb dX5_staysAtDawn_44 rfl (lv_at hl 1 rfl) ?_
      refine g_get (ci := 4) (v := .ref (f 3)) h0 hF inX5 hT.1 0 rfl rfl 2 (by decide) wf_X5_28 rfl rfl dX5_staysAtDawn_45 ?_
      refine g_get (ci := 6) (v := .ref (f 21)) h0 hF inX7 hT.1 3 rfl rfl 4 (by decide) wf_X5_152 rfl rfl dX5_staysAtDawn_48 ?_
      refine lv_iload_n hx hb dX5_staysAtDawn_51 rfl (lv_at hl 2 rfl) ?_
      refine lv_dup2_11 hx hb dX5_staysAtDawn_52 rfl rfl ?_
      refine g_iald hx hb hK hT.1 21 0 rfl rfl w (rfl) (by omega) (by decide) dX5_staysAtDawn_53 ?_
      refine lv_iconst (v := 1) hx hb dX5_staysAtDawn_54 (by decide) ?_
      refine lv_iadd hx hb dX5_staysAtDawn_55 ?_
      have htg := hT.tag 21 rfl
      refine g_iast hx hb hK hT hS (htg) 21 0 rfl rfl w (rfl) (by omega) (by decide) dX5_staysAtDawn_56 (fun H locs oq hT' hS => ?_)
      have hT : Tw X ow t (skW X f (sU k 17 w ((k.1 17 w) + 1))) H := hT'.to (skS_17 X f k w ((k.1 17 w) + 1))
      refine lv_iconst (v := 1) hx hb dX5_staysAtDawn_57 (by decide) ?_
      exact mm_zret hF hS dX5_staysAtDawn_58 rfl (by have e9 : stD k w = (true, sU k 17 w ((k.1 17 w) + 1)) := (by simp only [stD, n_15, n_41, if_true, if_false, Bool.false_eq_true, reduceIte]); exact ⟨by rw [e9]; rfl, by rw [e9]; exact hT⟩)
  · have n_15 := bI_n0.mp c_15
    refine lv_aload_n hx hb dX5_staysAtDawn_18 rfl (lv_at hl 1 rfl) ?_
    refine g_get (ci := 4) (v := .ref (f 2)) h0 hF inX5 hT.1 0 rfl rfl 1 (by decide) wf_X5_21 rfl rfl dX5_staysAtDawn_19 ?_
    refine g_get (ci := 3) (v := .ref (f 14)) h0 hF inX4 hT.1 2 rfl rfl 6 (by decide) wf_X5_181 rfl rfl dX5_staysAtDawn_22 ?_
    refine lv_iload_n hx hb dX5_staysAtDawn_25 rfl (lv_at hl 0 rfl) ?_
    refine lv_dup2_11 hx hb dX5_staysAtDawn_26 rfl rfl ?_
    refine g_iald hx hb hK hT.1 14 0 rfl rfl (wR k w) (hw1.1) (by omega) (by decide) dX5_staysAtDawn_27 ?_
    refine lv_iconst (v := 1) hx hb dX5_staysAtDawn_28 (by decide) ?_
    refine lv_iadd hx hb dX5_staysAtDawn_29 ?_
    have htg := hT.tag 14 rfl
    refine g_iast hx hb hK hT hS (htg) 14 0 rfl rfl (wR k w) (hw1.1) (by omega) (by decide) dX5_staysAtDawn_30 (fun H locs oq hT' hS => ?_)
    have hT : Tw X ow t (skW X f (sU k 10 (wR k w) ((k.1 10 (wR k w)) + 1))) H := hT'.to (skS_10 X f k (wR k w) ((k.1 10 (wR k w)) + 1))
    refine lv_iconst (v := 0) hx hb dX5_staysAtDawn_31 (by decide) ?_
    exact mm_zret hF hS dX5_staysAtDawn_32 rfl (by have e9 : stD k w = (false, sU k 10 (wR k w) ((k.1 10 (wR k w)) + 1)) := (by simp only [stD, n_15, if_true, if_false, Bool.false_eq_true, reduceIte]); exact ⟨by rw [e9]; rfl, by rw [e9]; exact hT⟩)

set_option maxHeartbeats 4000000 in
set_option maxRecDepth 100000 in
theorem m_X5_passNight {X : Cx} {l : Launch} (h0 : Init X) {ow : Nat → Nat} {t : Nat} {f : Nat → Nat} {k : Sk} (hO : Ok k) (hz : ∀ q, ow q = t → X.z ≤ q)  : MM X l yX5_passNight cX5_passNight 4 (some .int) 3 64 0 0 [.ref (f 0)] (Tw X ow t (skW X f k)) (fun v H => v = some (.int ((oDawn k).1)) ∧ Tw X ow t (skW X f ((oDawn k).2)) H) (fun q => ow q = t) := by
  refine Met.mk (Bh := (Tw X ow t (skW X f k))) (by decide) (Nat.le_of_ble_eq_true rfl) ?_
  intro p e s m below meth c ls hF hB hl
  have hT := hB
  have hl : lv_has ls 4 [(0, .ref (f 0))] := hl
  obtain ⟨hx, hb, hml, hr, hlk, hown, hG⟩ := id hF
  have hK := hG.K h0
  have hS : va_S (fun q => ow q = t) s.heap s.heap [] := va_S.rf
  have hO1 := hO.1
  have hO2 := hO.2.1
  have hO3 := hO.2.2.1
  have hAo : ∀ q, q < X.z → ¬ (fun q => ow q = t) q := fun q h9 (h8 : ow q = t) => absurd (hz q h8) (by omega)
  refine lv_aload_n hx hb dX5_passNight_0 rfl (lv_at hl 0 rfl) ?_
  refine core_p (v := .int (nI (cN (fun z => grB k z) (k.2 2)))) (grV (n := 0) (As := []) (rest := []) h0 hF (m_X5_countGrantable h0 (f := f) (k := k) hO  ) wm_X5_161 wo_X5_countGrantable ws_X5__X5_countGrantable wz_X5 wc_X5_countGrantable ⟨by decide, by decide, by decide +kernel⟩ rfl ⟨Nat.le_of_ble_eq_true rfl, Nat.le_of_ble_eq_true rfl⟩ (ci := 4) ⟨_, hT.1 0 _ rfl⟩ rfl hT.1 hS hAo ⟨Nat.le_of_ble_eq_true rfl, Nat.le_of_ble_eq_true rfl⟩ hl.1 rfl (Nat.le_of_ble_eq_true rfl) dX5_passNight_1) ?_
  refine lv_istore_n (lv' := [(1, .int (nI (cN (fun z => grB k z) (k.2 2)))), (0, .ref (f 0))]) hx hb dX5_passNight_4 rfl hl (by decide) rfl (fun ls hl => ?_)
  refine lv_iconst (v := 0) hx hb dX5_passNight_5 (by decide) ?_
  refine lv_istore_n (lv' := [(2, .int 0), (1, .int (nI (cN (fun z => grB k z) (k.2 2)))), (0, .ref (f 0))]) hx hb dX5_passNight_6 rfl hl (by decide) rfl (fun ls hl => ?_)
  refine lv_iconst (v := 0) hx hb dX5_passNight_7 (by decide) ?_
  refine lv_istore_n (lv' := [(3, .int 0), (2, .int 0), (1, .int (nI (cN (fun z => grB k z) (k.2 2)))), (0, .ref (f 0))]) hx hb dX5_passNight_8 rfl hl (by decide) rfl (fun ls hl => ?_)
  have key_9 : ∀ (nf j : Nat), j + nf = k.2 2 → ∀ (H : Heap) (locs : List Loc), Tw X ow t (skW X f ((dN k j).1)) H → va_S (fun q => ow q = t) s.heap H locs → ∀ (ls : Array Slot), lv_has ls 4 [(0, .ref (f 0)), (1, .int (nI (cN (fun z => grB k z) (k.2 2)))), (2, .int (nI (dN k j).2)), (3, .int (nI j))] → W p l e ({ frames := 3, cells := 0, slots := 0, locals := 64 } : Room) s m ([.ref (f 0)] : List Value).toArray below meth c H locs 0 0 (MQ below (qM (fun v H => v = some (.int ((oDawn k).1)) ∧ Tw X ow t (skW X f ((oDawn k).2)) H) (fun q => ow q = t)) ([.ref (f 0)] : List Value).toArray s 0 0 (fun q => ow q = t)) (F0 m 9 ls []) := by
    intro nf
    induction nf with
    | zero =>
      intro j hj H locs hT hS ls hl
      have hj_e : j = k.2 2 := by omega
      have hOj := Ok_dN hO j (by omega)
      have e2 := dN_2 k j
      have hle := dN_le k j
      refine lv_iload_n hx hb dX5_passNight_9 rfl (lv_at hl 3 rfl) ?_
      refine lv_aload_n hx hb dX5_passNight_10 rfl (lv_at hl 0 rfl) ?_
      refine g_get (ci := 4) (v := .ref (f 3)) h0 hF inX5 hT.1 0 rfl rfl 2 (by decide) wf_X5_28 rfl rfl dX5_passNight_11 ?_
      refine g_get (ci := 6) (v := .int (nI (((dN k j).1).2 2))) h0 hF inX7 hT.1 3 rfl rfl 0 (by decide) wf_X5_123 rfl rfl dX5_passNight_14 ?_
      refine lv_topE (y := nI (k.2 2)) (by rw [e2]) ?_
      refine lv_icmp_ge (tgt := 46) hx hb dX5_passNight_17 (by decide) (fun c_17 => ?_) (fun c_17 => absurd (nI_le (a := k.2 2) (b := j) (by omega) (by omega)) c_17)
      have n_17 := Int32.not_lt.mpr c_17
      have hO1e := Ok_sC2 hOj (n := (dN k j).2) (by rw [e2]; omega)
      refine lv_aload_n hx hb dX5_passNight_46 rfl (lv_at hl 0 rfl) ?_
      refine g_get (ci := 4) (v := .ref (f 3)) h0 hF inX5 hT.1 0 rfl rfl 2 (by decide) wf_X5_28 rfl rfl dX5_passNight_47 ?_
      refine lv_iload_n hx hb dX5_passNight_50 rfl (lv_at hl 2 rfl) ?_
      have htg := hT.tag 3 rfl
      refine g_put (ci := 6) h0 hF inX7 tyX7 tyX7_ok nmX7 hT hS (htg) 3 rfl rfl 0 (by decide) wf_X5_123 rfl rfl (tyX7_ok 0 (by decide)) rfl rfl (Nat.le_of_ble_eq_true rfl) dX5_passNight_51 (fun H locs oq hT' hS => ?_)
      have hT : Tw X ow t (skW X f (sC ((dN k j).1) 2 ((dN k j).2))) H := hT'.to (skC_2 X f ((dN k j).1) ((dN k j).2))
      refine lv_aload_n hx hb dX5_passNight_54 rfl (lv_at hl 0 rfl) ?_
      refine g_get (ci := 4) (v := .ref (f 1)) h0 hF inX5 hT.1 0 rfl rfl 0 (by decide) wf_X5_12 rfl rfl dX5_passNight_55 ?_
      refine core_m (A1 := fun q => ow q = t) (grV (n := 0) (As := []) (rest := []) h0 hF (m_X6_thinClouds h0 (ow := ow) (t := t) (f := f) (k := (sC ((dN k j).1) 2 ((dN k j).2))) hO1e (fun q h9 => hz q (by omega))  ) wm_X5_172 wo_X6_thinClouds ws_X6__X6_thinClouds wz_X6 wc_X6_thinClouds ⟨by decide, by decide, by decide +kernel⟩ rfl ⟨Nat.le_of_ble_eq_true rfl, Nat.le_of_ble_eq_true rfl⟩ (ci := 5) ⟨_, hT.1 1 _ rfl⟩ rfl hT hS hAo ⟨Nat.le_of_ble_eq_true rfl, Nat.le_of_ble_eq_true rfl⟩ hl.1 rfl (Nat.le_of_ble_eq_true rfl) dX5_passNight_58) hS (fun q (h8 : ow q = t) => (show ow q = t from by omega)) (fun v H locs hq hz1 hk1 hS => ?_)
      obtain ⟨rfl, hT⟩ := hq
      have hT : Tw X ow t (skW X f (tC (sC ((dN k j).1) 2 ((dN k j).2)) 4)) H := hT
      refine lv_aload_n hx hb dX5_passNight_61 rfl (lv_at hl 0 rfl) ?_
      refine g_get (ci := 4) (v := .ref (f 2)) h0 hF inX5 hT.1 0 rfl rfl 1 (by decide) wf_X5_21 rfl rfl dX5_passNight_62 ?_
      refine core_m (A1 := fun q => ow q = t) (grV (n := 0) (As := []) (rest := []) h0 hF (m_X4_beginNight h0 (ow := ow) (t := t) (f := f) (k := (tC (sC ((dN k j).1) 2 ((dN k j).2)) 4)) (Ok_tC hO1e 4) (fun q h9 => hz q (by omega))  ) wm_X5_175 wo_X4_beginNight ws_X4__X4_beginNight wz_X4 wc_X4_beginNight ⟨by decide, by decide, by decide +kernel⟩ rfl ⟨Nat.le_of_ble_eq_true rfl, Nat.le_of_ble_eq_true rfl⟩ (ci := 3) ⟨_, hT.1 2 _ rfl⟩ rfl hT hS hAo ⟨Nat.le_of_ble_eq_true rfl, Nat.le_of_ble_eq_true rfl⟩ hl.1 rfl (Nat.le_of_ble_eq_true rfl) dX5_passNight_65) hS (fun q (h8 : ow q = t) => (show ow q = t from by omega)) (fun v H locs hq hz1 hk1 hS => ?_)
      obtain ⟨rfl, hT⟩ := hq
      have hT : Tw X ow t (skW X f (bN (tC (sC ((dN k j).1) 2 ((dN k j).2)) 4) ((tC (sC ((dN k j).1) 2 ((dN k j).2)) 4).2 1))) H := hT
      refine lv_aload_n hx hb dX5_passNight_68 rfl (lv_at hl 0 rfl) ?_
      refine lv_dup hx hb dX5_passNight_69 rfl ?_
      refine g_get (ci := 4) (v := .int ((bN (tC (sC ((dN k j).1) 2 ((dN k j).2)) 4) ((tC (sC ((dN k j).1) 2 ((dN k j).2)) 4).2 1)).1 19 0)) h0 hF inX5 hT.1 0 rfl rfl 3 (by decide) wf_X5_37 rfl rfl dX5_passNight_70 ?_
      refine lv_iconst (v := 1) hx hb dX5_passNight_73 (by decide) ?_
      refine lv_iadd hx hb dX5_passNight_74 ?_
      have htg := hT.tag 0 rfl
      refine g_put (ci := 4) h0 hF inX5 tyX5 tyX5_ok nmX5 hT hS (htg) 0 rfl rfl 3 (by decide) wf_X5_37 rfl rfl (tyX5_ok 3 (by decide)) rfl rfl (Nat.le_of_ble_eq_true rfl) dX5_passNight_75 (fun H locs oq hT' hS => ?_)
      have hT : Tw X ow t (skW X f (sU (bN (tC (sC ((dN k j).1) 2 ((dN k j).2)) 4) ((tC (sC ((dN k j).1) 2 ((dN k j).2)) 4).2 1)) 19 0 (((bN (tC (sC ((dN k j).1) 2 ((dN k j).2)) 4) ((tC (sC ((dN k j).1) 2 ((dN k j).2)) 4).2 1)).1 19 0) + 1))) H := hT'.to (skN_0 X f (bN (tC (sC ((dN k j).1) 2 ((dN k j).2)) 4) ((tC (sC ((dN k j).1) 2 ((dN k j).2)) 4).2 1)) (((bN (tC (sC ((dN k j).1) 2 ((dN k j).2)) 4) ((tC (sC ((dN k j).1) 2 ((dN k j).2)) 4).2 1)).1 19 0) + 1))
      refine lv_iload_n hx hb dX5_passNight_78 rfl (lv_at hl 1 rfl) ?_
      exact mm_iret hF hS dX5_passNight_79 (by rw [hj_e] at hT; exact ⟨rfl, hT⟩)
    | succ nf ih_9 =>
      intro j hj H locs hT hS ls hl
      have hj_l : j < k.2 2 := by omega
      have hOj := Ok_dN hO j (by omega)
      have e2 := dN_2 k j
      have hle := dN_le k j
      refine lv_iload_n hx hb dX5_passNight_9 rfl (lv_at hl 3 rfl) ?_
      refine lv_aload_n hx hb dX5_passNight_10 rfl (lv_at hl 0 rfl) ?_
      refine g_get (ci := 4) (v := .ref (f 3)) h0 hF inX5 hT.1 0 rfl rfl 2 (by decide) wf_X5_28 rfl rfl dX5_passNight_11 ?_
      refine g_get (ci := 6) (v := .int (nI (((dN k j).1).2 2))) h0 hF inX7 hT.1 3 rfl rfl 0 (by decide) wf_X5_123 rfl rfl dX5_passNight_14 ?_
      refine lv_topE (y := nI (k.2 2)) (by rw [e2]) ?_
      refine lv_icmp_ge (tgt := 46) hx hb dX5_passNight_17 (by decide) (fun c_17 => absurd c_17 (nI_ge (a := j) (b := k.2 2) (by omega) (by omega))) (fun c_17 => ?_)
      have n_17 := Int32.not_le.mp c_17
      refine lv_aload_n hx hb dX5_passNight_20 rfl (lv_at hl 0 rfl) ?_
      refine lv_iload_n hx hb dX5_passNight_21 rfl (lv_at hl 3 rfl) ?_
      refine core_m (A1 := fun q => ow q = t) (grV (n := 1) (As := [.int (nI j)]) (rest := []) h0 hF (m_X5_staysAtDawn h0 (ow := ow) (t := t) (f := f) (k := ((dN k j).1)) hOj (fun q h9 => hz q (by omega))  (nI j) j rfl (by rw [e2]; omega)) wm_X5_165 wo_X5_staysAtDawn ws_X5__X5_staysAtDawn wz_X5 wc_X5_staysAtDawn ⟨by decide, by decide, by decide +kernel⟩ rfl ⟨Nat.le_of_ble_eq_true rfl, Nat.le_of_ble_eq_true rfl⟩ (ci := 4) ⟨_, hT.1 0 _ rfl⟩ rfl hT hS hAo ⟨Nat.le_of_ble_eq_true rfl, Nat.le_of_ble_eq_true rfl⟩ hl.1 rfl (Nat.le_of_ble_eq_true rfl) dX5_passNight_22) hS (fun q (h8 : ow q = t) => (show ow q = t from by omega)) (fun v H locs hq hz1 hk1 hS => ?_)
      obtain ⟨rfl, hT⟩ := hq
      have hT : Tw X ow t (skW X f ((stD ((dN k j).1) j).2)) H := hT
      refine lv_if_eq (tgt := 40) hx hb dX5_passNight_25 (by decide) (fun c_25 => ?_) (fun c_25 => ?_)
      · have n_25 := bI_0.mp c_25
        refine lv_iinc (v := nI (j + 1)) (lv' := [(3, .int (nI (j + 1))), (0, .ref (f 0)), (1, .int (nI (cN (fun z => grB k z) (k.2 2)))), (2, .int (nI (dN k j).2))]) hx hb dX5_passNight_40 hl (k := 3) rfl (nI_1 j) (by decide) rfl (fun ls hl => ?_)
        refine lv_goto (tgt := 9) hx hb dX5_passNight_43 (by decide) ?_
        rw [show ((stD ((dN k j).1) j).2) = ((dN k (j + 1)).1) from (by rw [dN]; simp only [c_17, n_17, n_25, if_true, if_false, Bool.false_eq_true, reduceIte])] at hT
        refine ih_9 (j + 1) (by omega) _ _ hT hS ls (lv_eqv (lv_sub (l' := [(0, .ref (f 0)), (1, .int (nI (cN (fun z => grB k z) (k.2 2)))), (2, .int (nI (dN k j).2)), (3, .int (nI (j + 1)))]) hl [1, 2, 3, 0] rfl) ?_)
        rw [show (nI (dN k j).2) = (nI (dN k (j + 1)).2) from (by rw [dN]; simp only [c_17, n_17, n_25, if_true, if_false, Bool.false_eq_true, reduceIte])]
      · have n_25 := bI_n0.mp c_25
        refine lv_aload_n hx hb dX5_passNight_28 rfl (lv_at hl 0 rfl) ?_
        refine g_get (ci := 4) (v := .ref (f 3)) h0 hF inX5 hT.1 0 rfl rfl 2 (by decide) wf_X5_28 rfl rfl dX5_passNight_29 ?_
        refine lv_iload_n hx hb dX5_passNight_32 rfl (lv_at hl 3 rfl) ?_
        refine lv_iload_n hx hb dX5_passNight_33 rfl (lv_at hl 2 rfl) ?_
        refine core_m (A1 := fun q => ow q = t) (grV (n := 2) (As := [.int (nI j), .int (nI (dN k j).2)]) (rest := []) h0 hF (m_X7_move h0 (ow := ow) (t := t) (f := f) (k := ((stD ((dN k j).1) j).2)) (Ok_stD hOj j) (fun q h9 => hz q (by omega))  (nI j) j rfl (by omega) (nI (dN k j).2) (dN k j).2 rfl (by omega)) wm_X5_168 wo_X7_move ws_X7__X7_move wz_X7 wc_X7_move ⟨by decide, by decide, by decide +kernel⟩ rfl ⟨Nat.le_of_ble_eq_true rfl, Nat.le_of_ble_eq_true rfl⟩ (ci := 6) ⟨_, hT.1 3 _ rfl⟩ rfl hT hS hAo ⟨Nat.le_of_ble_eq_true rfl, Nat.le_of_ble_eq_true rfl⟩ hl.1 rfl (Nat.le_of_ble_eq_true rfl) dX5_passNight_34) hS (fun q (h8 : ow q = t) => (show ow q = t from by omega)) (fun v H locs hq hz1 hk1 hS => ?_)
        obtain ⟨rfl, hT⟩ := hq
        have hT : Tw X ow t (skW X f (mvW ((stD ((dN k j).1) j).2) j (dN k j).2)) H := hT
        refine lv_iinc (v := nI ((dN k j).2 + 1)) (lv' := [(2, .int (nI ((dN k j).2 + 1))), (0, .ref (f 0)), (1, .int (nI (cN (fun z => grB k z) (k.2 2)))), (3, .int (nI j))]) hx hb dX5_passNight_37 hl (k := 2) rfl (nI_1 ((dN k j).2)) (by decide) rfl (fun ls hl => ?_)
        refine lv_iinc (v := nI (j + 1)) (lv' := [(3, .int (nI (j + 1))), (2, .int (nI ((dN k j).2 + 1))), (0, .ref (f 0)), (1, .int (nI (cN (fun z => grB k z) (k.2 2))))]) hx hb dX5_passNight_40 hl (k := 3) rfl (nI_1 j) (by decide) rfl (fun ls hl => ?_)
        refine lv_goto (tgt := 9) hx hb dX5_passNight_43 (by decide) ?_
        rw [show (mvW ((stD ((dN k j).1) j).2) j (dN k j).2) = ((dN k (j + 1)).1) from (by rw [dN]; simp only [c_17, n_17, n_25, if_true, if_false, Bool.false_eq_true, reduceIte])] at hT
        refine ih_9 (j + 1) (by omega) _ _ hT hS ls (lv_eqv (lv_sub (l' := [(0, .ref (f 0)), (1, .int (nI (cN (fun z => grB k z) (k.2 2)))), (2, .int (nI ((dN k j).2 + 1))), (3, .int (nI (j + 1)))]) hl [2, 3, 1, 0] rfl) ?_)
        rw [show (nI ((dN k j).2 + 1)) = (nI (dN k (j + 1)).2) from (by rw [dN]; simp only [c_17, n_17, n_25, if_true, if_false, Bool.false_eq_true, reduceIte])]
  exact key_9 (k.2 2) 0 (by omega) _ _ hT hS ls (lv_sub hl [3, 2, 1, 0] rfl)
