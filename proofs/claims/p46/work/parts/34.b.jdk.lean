set_option maxHeartbeats 4000000 in
set_option maxRecDepth 100000 in
theorem m_J5_length_8abf5 {X : Cx} {l : Launch} (h0 : Init X) {ow : Nat → Nat} {t a v n cap : Nat} {ml : Int32} {bs : Nat → Int32}  : PM X l yJ5_length_8abf5 cJ5_length_8abf5 1 (some .int) 0 0 [.ref a] (Tw X ow t (bfW X a v ml n cap bs)) (.int (nI n)) := by
  refine Met.mk (Bh := (Tw X ow t (bfW X a v ml n cap bs))) (by decide) (Nat.le_of_ble_eq_true rfl) ?_
  intro p e s m below meth c ls hF hB hl
  have hl : lv_has ls 1 [(0, .ref a)] := hl
  obtain ⟨hx, hb, hml, hr, hlk, hown, hG⟩ := id hF
  have hK := hG.K h0
  have hS : va_S noA s.heap s.heap [] := va_S.rf
  refine lv_aload_n hx hb dJ5_length_8abf5_0 rfl (lv_at hl 0 rfl) ?_
  refine g_get (ci := 0) (v := .int (nI n)) h0 hF inJ4 hB.1 0 rfl rfl 3 (by decide) wf_J5_79 rfl rfl dJ5_length_8abf5_1 ?_
  exact pm_iret hF dJ5_length_8abf5_4 (rfl)

set_option maxHeartbeats 4000000 in
set_option maxRecDepth 100000 in
theorem m_J4_length_8abf5 {X : Cx} {l : Launch} (h0 : Init X) {ow : Nat → Nat} {t a v n cap : Nat} {ml : Int32} {bs : Nat → Int32}  : PM X l yJ4_length_8abf5 cJ4_length_8abf5 1 (some .int) 1 20 [.ref a] (Tw X ow t (bfW X a v ml n cap bs)) (.int (nI n)) := by
  refine Met.mk (Bh := (Tw X ow t (bfW X a v ml n cap bs))) (by decide) (Nat.le_of_ble_eq_true rfl) ?_
  intro p e s m below meth c ls hF hB hl
  have hl : lv_has ls 1 [(0, .ref a)] := hl
  obtain ⟨hx, hb, hml, hr, hlk, hown, hG⟩ := id hF
  have hK := hG.K h0
  have hS : va_S noA s.heap s.heap [] := va_S.rf
  refine lv_aload_n hx hb dJ4_length_8abf5_0 rfl (lv_at hl 0 rfl) ?_
  refine core_p (v := .int (nI n)) (grSU (n := 0) (As := []) (rest := []) h0 hF (m_J5_length_8abf5 h0 (ow := ow) (t := t) (a := a) (v := v) (ml := ml) (n := n) (cap := cap) (bs := bs) ) wm_J4_343 wo_J5_length_8abf5 wu_J4 wz_J5 wc_J5_length_8abf5 wy_java_lang_AbstractStringBuilder_J5_length___I ⟨by decide, by decide +kernel⟩ rfl ⟨Nat.le_of_ble_eq_true rfl, Nat.le_of_ble_eq_true rfl⟩ (ci := 0) ⟨_, hB.1 0 _ rfl⟩ rfl hB hS noA_old ⟨Nat.zero_le _, Nat.zero_le _⟩ hl.1 rfl (Nat.le_of_ble_eq_true rfl) dJ4_length_8abf5_1) ?_
  exact pm_iret hF dJ4_length_8abf5_4 (rfl)

set_option maxHeartbeats 4000000 in
set_option maxRecDepth 100000 in
theorem m_J5_isLatin1_aae02 {X : Cx} {l : Launch} (h0 : Init X) {ow : Nat → Nat} {t a v n cap : Nat} {ml : Int32} {bs : Nat → Int32}  : PM X l yJ5_isLatin1_aae02 cJ5_isLatin1_aae02 1 (some .boolean) 0 0 [.ref a] (Tw X ow t (bfW X a v ml n cap bs)) (.int 1) := by
  refine Met.mk (Bh := (Tw X ow t (bfW X a v ml n cap bs))) (by decide) (Nat.le_of_ble_eq_true rfl) ?_
  intro p e s m below meth c ls hF hB hl
  have hl : lv_has ls 1 [(0, .ref a)] := hl
  obtain ⟨hx, hb, hml, hr, hlk, hown, hG⟩ := id hF
  have hK := hG.K h0
  have hS : va_S noA s.heap s.heap [] := va_S.rf
  refine va_gets hx hb (hG.Z noA_old (csZ h0)) hS hown (hG.hts h0 _ _ wf_J5_18) (fun _ h9 => h9) dJ5_isLatin1_aae02_0 ?_
  refine lv_if_eq (tgt := 17) hx hb dJ5_isLatin1_aae02_3 (by decide) (fun c_3 => absurd c_3 (by decide)) (fun c_3 => ?_)
  refine lv_aload_n hx hb dJ5_isLatin1_aae02_6 rfl (lv_at hl 0 rfl) ?_
  refine g_get (ci := 0) (v := .int 0) h0 hF inJ4 hB.1 0 rfl rfl 1 (by decide) wf_J5_22 rfl rfl dJ5_isLatin1_aae02_7 ?_
  refine lv_if_ne (tgt := 17) hx hb dJ5_isLatin1_aae02_10 (by decide) (fun c_10 => absurd c_10 (by decide)) (fun c_10 => ?_)
  refine lv_iconst (v := 1) hx hb dJ5_isLatin1_aae02_13 (by decide) ?_
  refine lv_goto (tgt := 18) hx hb dJ5_isLatin1_aae02_14 (by decide) ?_
  exact pm_zret hF dJ5_isLatin1_aae02_18 rfl (rfl)

set_option maxHeartbeats 4000000 in
set_option maxRecDepth 100000 in
theorem m_J1_canEncode_fc78d {X : Cx} {l : Launch} (h0 : Init X) {cv : Nat} (hc : cv < 256) : PM X l yJ1_canEncode_fc78d cJ1_canEncode_fc78d 1 (some .boolean) 0 0 [.int (nI cv)] noW (.int 1) := by
  refine Met.mk (Bh := noW) (by decide) (Nat.le_of_ble_eq_true rfl) ?_
  intro p e s m below meth c ls hF hB hl
  have hl : lv_has ls 1 [(0, .int (nI cv))] := hl
  obtain ⟨hx, hb, hml, hr, hlk, hown, hG⟩ := id hF
  have hK := hG.K h0
  have hS : va_S noA s.heap s.heap [] := va_S.rf
  refine lv_iload_n hx hb dJ1_canEncode_fc78d_0 rfl (lv_at hl 0 rfl) ?_
  refine lv_sipush (v := 255) hx hb dJ1_canEncode_fc78d_1 (by decide) ?_
  refine lv_icmp_gt (tgt := 11) hx hb dJ1_canEncode_fc78d_4 (by decide) (fun c_4 => absurd c_4 (show ¬ nI 255 < nI cv from nI_nlt (by omega) (by decide))) (fun c_4 => ?_)
  have n_4 := Int32.not_lt.mp c_4
  refine lv_iconst (v := 1) hx hb dJ1_canEncode_fc78d_7 (by decide) ?_
  refine lv_goto (tgt := 12) hx hb dJ1_canEncode_fc78d_8 (by decide) ?_
  exact pm_zret hF dJ1_canEncode_fc78d_12 rfl (rfl)

theorem sb_cap130 {q cap : Nat} (h : cap < q) (hq : q ≤ 60) : q ≤ sb_cap q cap ∧ sb_cap q cap ≤ 130 ∧ 2 ≤ sb_cap q cap ∧ cap < sb_cap q cap := by
  have hs : sb_cap q cap = if 2 * cap + 2 < q then q else 2 * cap + 2 := by unfold sb_cap; exact if_neg (by omega)
  rw [hs]
  split <;> omega
theorem sb_grow {q cap : Nat} (h : cap < q) (hq : q ≤ 60) : nI cap + (if nI (q - cap) < nI (cap + 2) then nI (cap + 2) else nI (q - cap)) = nI (sb_cap q cap) := by
  have hs : sb_cap q cap = if 2 * cap + 2 < q then q else 2 * cap + 2 := by unfold sb_cap; exact if_neg (by omega)
  by_cases h2 : q - cap < cap + 2
  · rw [hs, if_pos (nI_lt h2 (by omega)), if_neg (by omega), nI_add]
    exact congrArg nI (by omega)
  · rw [hs, if_neg (nI_nlt (by omega) (by omega)), nI_add]
    by_cases h3 : 2 * cap + 2 < q
    · rw [if_pos h3]; exact congrArg nI (by omega)
    · rw [if_neg h3]; exact congrArg nI (by omega)

set_option maxHeartbeats 4000000 in
set_option maxRecDepth 100000 in
theorem m_J8_newLength_cabcc {X : Cx} {l : Launch} (h0 : Init X) {q cap : Nat} (hq : cap < q) (hq2 : q ≤ 60) : PM X l yJ8_newLength_cabcc cJ8_newLength_cabcc 4 (some .int) 1 14 [.int (nI cap), .int (nI (q - cap)), .int (nI (cap + 2))] noW (.int (nI (sb_cap q cap))) := by
  refine Met.mk (Bh := noW) (by decide) (Nat.le_of_ble_eq_true rfl) ?_
  intro p e s m below meth c ls hF hB hl
  have hl : lv_has ls 4 [(0, .int (nI cap)), (1, .int (nI (q - cap))), (2, .int (nI (cap + 2)))] := hl
  obtain ⟨hx, hb, hml, hr, hlk, hown, hG⟩ := id hF
  have hK := hG.K h0
  have hS : va_S noA s.heap s.heap [] := va_S.rf
  have hcp := sb_cap130 hq hq2
  refine lv_iload_n hx hb dJ8_newLength_cabcc_0 rfl (lv_at hl 0 rfl) ?_
  refine lv_iload_n hx hb dJ8_newLength_cabcc_1 rfl (lv_at hl 1 rfl) ?_
  refine lv_iload_n hx hb dJ8_newLength_cabcc_2 rfl (lv_at hl 2 rfl) ?_
  refine va_mmax hx hb (by rw [hl.1]; exact hml) hown (hG.hts h0 _ _ wm_J8_194) (hG.hts h0 _ _ wt_J9_max_7cf53) (hG.hts h0 _ _ wz_J9) (hG.hts h0 _ _ wc_J9_max_7cf53) (Nat.le_of_ble_eq_true rfl) (Nat.le_of_ble_eq_true rfl) (Nat.zero_le _) (Nat.zero_le _) dJ8_newLength_cabcc_3 ?_
  refine lv_iadd hx hb dJ8_newLength_cabcc_6 ?_
  refine lv_topE (y := nI (sb_cap q cap)) (sb_grow hq hq2) ?_
  refine lv_istore_n (lv' := [(3, .int (nI (sb_cap q cap))), (0, .int (nI cap)), (1, .int (nI (q - cap))), (2, .int (nI (cap + 2)))]) hx hb dJ8_newLength_cabcc_7 rfl hl (by decide) rfl (fun ls hl => ?_)
  refine lv_iconst (v := 0) hx hb dJ8_newLength_cabcc_8 (by decide) ?_
  refine lv_iload_n hx hb dJ8_newLength_cabcc_9 rfl (lv_at hl 0 rfl) ?_
  refine lv_icmp_ge (tgt := 21) hx hb dJ8_newLength_cabcc_10 (by decide) (fun c_10 => absurd c_10 (fun h => by have := (nI_leI (a := sb_cap q cap) (b := 0) (by omega) (by omega)).mp h; omega)) (fun c_10 => ?_)
  refine lv_iload_n hx hb dJ8_newLength_cabcc_13 rfl (lv_at hl 0 rfl) ?_
  refine lv_ldc hx hb hown (hG.hts h0 _ _ wn_J8_200) dJ8_newLength_cabcc_14 ?_
  refine lv_icmp_gt (tgt := 21) hx hb dJ8_newLength_cabcc_16 (by decide) (fun c_16 => absurd c_16 (show ¬ nI 2147483639 < nI (sb_cap q cap) from nI_nlt (by omega) (by decide))) (fun c_16 => ?_)
  have n_16 := Int32.not_lt.mp c_16
  refine lv_iload_n hx hb dJ8_newLength_cabcc_19 rfl (lv_at hl 0 rfl) ?_
  exact pm_iret hF dJ8_newLength_cabcc_20 (rfl)

set_option maxHeartbeats 4000000 in
set_option maxRecDepth 100000 in
theorem m_J5_newCapacity_0f7a4 {X : Cx} {l : Launch} (h0 : Init X) {ow : Nat → Nat} {t a v n cap : Nat} {ml : Int32} {bs : Nat → Int32} {q : Nat} (hq : cap < q) (hq2 : q ≤ 60) : PM X l yJ5_newCapacity_0f7a4 cJ5_newCapacity_0f7a4 6 (some .int) 2 37 [.ref a, .int (nI q)] (Tw X ow t (bfW X a v ml n cap bs)) (.int (nI (sb_cap q cap))) := by
  refine Met.mk (Bh := (Tw X ow t (bfW X a v ml n cap bs))) (by decide) (Nat.le_of_ble_eq_true rfl) ?_
  intro p e s m below meth c ls hF hB hl
  have hl : lv_has ls 6 [(0, .ref a), (1, .int (nI q))] := hl
  obtain ⟨hx, hb, hml, hr, hlk, hown, hG⟩ := id hF
  have hK := hG.K h0
  have hS : va_S noA s.heap s.heap [] := va_S.rf
  have hcp := sb_cap130 hq hq2
  refine lv_aload_n hx hb dJ5_newCapacity_0f7a4_0 rfl (lv_at hl 0 rfl) ?_
  refine g_get (ci := 0) (v := .ref v) h0 hF inJ4 hB.1 0 rfl rfl 0 (by decide) wf_J5_15 rfl rfl dJ5_newCapacity_0f7a4_1 ?_
  refine va_alen hx hb hK hB.1 1 1 rfl rfl (v := nI cap) rfl dJ5_newCapacity_0f7a4_4 ?_
  refine lv_istore_n (lv' := [(2, .int (nI cap)), (0, .ref a), (1, .int (nI q))]) hx hb dJ5_newCapacity_0f7a4_5 rfl hl (by decide) rfl (fun ls hl => ?_)
  refine lv_iload_n hx hb dJ5_newCapacity_0f7a4_6 rfl (lv_at hl 2 rfl) ?_
  refine lv_aload_n hx hb dJ5_newCapacity_0f7a4_7 rfl (lv_at hl 1 rfl) ?_
  refine g_get (ci := 0) (v := .int 0) h0 hF inJ4 hB.1 0 rfl rfl 1 (by decide) wf_J5_22 rfl rfl dJ5_newCapacity_0f7a4_8 ?_
  refine lv_ishl hx hb dJ5_newCapacity_0f7a4_11 ?_
  refine lv_topE (y := nI q) (sb_shl0 _) ?_
  refine lv_istore_n (lv' := [(3, .int (nI q)), (2, .int (nI cap)), (0, .ref a), (1, .int (nI q))]) hx hb dJ5_newCapacity_0f7a4_12 rfl hl (by decide) rfl (fun ls hl => ?_)
  refine lv_iload_n hx hb dJ5_newCapacity_0f7a4_13 rfl (lv_at hl 0 rfl) ?_
  refine lv_iload_n hx hb dJ5_newCapacity_0f7a4_14 rfl (lv_at hl 1 rfl) ?_
  refine lv_isub hx hb dJ5_newCapacity_0f7a4_15 ?_
  refine lv_topE (y := nI (q - cap)) (pk_sub (by omega)) ?_
  refine lv_istore (lv' := [(4, .int (nI (q - cap))), (3, .int (nI q)), (2, .int (nI cap)), (0, .ref a), (1, .int (nI q))]) hx hb dJ5_newCapacity_0f7a4_16 hl (by decide) rfl (fun ls hl => ?_)
  refine lv_iload_n hx hb dJ5_newCapacity_0f7a4_18 rfl (lv_at hl 2 rfl) ?_
  refine lv_iload hx hb dJ5_newCapacity_0f7a4_19 (lv_at hl 0 rfl) ?_
  refine lv_iload_n hx hb dJ5_newCapacity_0f7a4_21 rfl (lv_at hl 2 rfl) ?_
  refine lv_iconst (v := 2) hx hb dJ5_newCapacity_0f7a4_22 (by decide) ?_
  refine lv_aload_n hx hb dJ5_newCapacity_0f7a4_23 rfl (lv_at hl 3 rfl) ?_
  refine g_get (ci := 0) (v := .int 0) h0 hF inJ4 hB.1 0 rfl rfl 1 (by decide) wf_J5_22 rfl rfl dJ5_newCapacity_0f7a4_24 ?_
  refine lv_ishl hx hb dJ5_newCapacity_0f7a4_27 ?_
  refine lv_iadd hx hb dJ5_newCapacity_0f7a4_28 ?_
  refine lv_topE (y := nI (cap + 2)) (by rw [sb_shl0]; exact nI_add cap 2) ?_
  refine core_p (v := .int (nI (sb_cap q cap))) (grS (n := 3) (As := [.int (nI cap), .int (nI (q - cap)), .int (nI (cap + 2))]) (rest := []) h0 hF (m_J8_newLength_cabcc h0 (q := q) (cap := cap) hq hq2) wm_J5_114 wt_J8_newLength_cabcc wz_J8 wc_J8_newLength_cabcc ⟨by decide, by decide, by decide +kernel⟩ rfl ⟨Nat.le_of_ble_eq_true rfl, Nat.le_of_ble_eq_true rfl⟩ trivial hS noA_old ⟨Nat.zero_le _, Nat.zero_le _⟩ hl.1 rfl (Nat.le_of_ble_eq_true rfl) dJ5_newCapacity_0f7a4_29) ?_
  refine lv_istore (lv' := [(5, .int (nI (sb_cap q cap))), (4, .int (nI (q - cap))), (3, .int (nI q)), (2, .int (nI cap)), (0, .ref a), (1, .int (nI q))]) hx hb dJ5_newCapacity_0f7a4_32 hl (by decide) rfl (fun ls hl => ?_)
  refine lv_iload hx hb dJ5_newCapacity_0f7a4_34 (lv_at hl 0 rfl) ?_
  refine lv_ldc hx hb hown (hG.hts h0 _ _ wn_J5_39) dJ5_newCapacity_0f7a4_36 ?_
  refine lv_icmp_ne (tgt := 51) hx hb dJ5_newCapacity_0f7a4_38 (by decide) (fun c_38 => ?_) (fun c_38 => absurd c_38 (fun h => by have := (nI_eq (a := sb_cap q cap) (b := 2147483647) (by omega) (by decide)).mp h; omega))
  refine lv_iload hx hb dJ5_newCapacity_0f7a4_51 (lv_at hl 0 rfl) ?_
  refine lv_aload_n hx hb dJ5_newCapacity_0f7a4_53 rfl (lv_at hl 4 rfl) ?_
  refine g_get (ci := 0) (v := .int 0) h0 hF inJ4 hB.1 0 rfl rfl 1 (by decide) wf_J5_22 rfl rfl dJ5_newCapacity_0f7a4_54 ?_
  refine lv_ishr hx hb dJ5_newCapacity_0f7a4_57 ?_
  refine lv_topE (y := nI (sb_cap q cap)) (sb_shr0 _) ?_
  exact pm_iret hF dJ5_newCapacity_0f7a4_58 (rfl)

set_option maxHeartbeats 4000000 in
set_option maxRecDepth 100000 in
theorem m_J3_ck_r {X : Cx} {l : Launch} (h0 : Init X) {i n : Nat} {sv : Nat} (hi : i < n) (hn : n < 2 ^ 31) : PM X l yJ3_checkIndex_8e157 cJ3_checkIndex_8e157 3 (some .int) 0 0 [.int (nI i), .int (nI n), .ref sv] noW (.int (nI i)) := by
  refine Met.mk (Bh := noW) (by decide) (Nat.le_of_ble_eq_true rfl) ?_
  intro p e s m below meth c ls hF hB hl
  have hl : lv_has ls 3 [(0, .int (nI i)), (1, .int (nI n)), (2, .ref sv)] := hl
  obtain ⟨hx, hb, hml, hr, hlk, hown, hG⟩ := id hF
  have hK := hG.K h0
  have hS : va_S noA s.heap s.heap [] := va_S.rf
  refine lv_iload_n hx hb dJ3_checkIndex_8e157_0 rfl (lv_at hl 0 rfl) ?_
  refine lv_if_lt (tgt := 9) hx hb dJ3_checkIndex_8e157_1 (by decide) (fun c_1 => absurd c_1 (nI_pos (by omega))) (fun c_1 => ?_)
  have n_1 := Int32.not_lt.mp c_1
  refine lv_iload_n hx hb dJ3_checkIndex_8e157_4 rfl (lv_at hl 0 rfl) ?_
  refine lv_iload_n hx hb dJ3_checkIndex_8e157_5 rfl (lv_at hl 1 rfl) ?_
  refine lv_icmp_lt (tgt := 16) hx hb dJ3_checkIndex_8e157_6 (by decide) (fun c_6 => ?_) (fun c_6 => absurd (nI_lt (by omega) (by omega)) c_6)
  have n_6 := Int32.not_le.mpr c_6
  refine lv_iload_n hx hb dJ3_checkIndex_8e157_16 rfl (lv_at hl 0 rfl) ?_
  exact pm_iret hF dJ3_checkIndex_8e157_17 (rfl)

set_option maxHeartbeats 4000000 in
set_option maxRecDepth 100000 in
theorem m_J3_ck_n {X : Cx} {l : Launch} (h0 : Init X) {i n : Nat} (hi : i < n) (hn : n < 2 ^ 31) : PM X l yJ3_checkIndex_8e157 cJ3_checkIndex_8e157 3 (some .int) 0 0 [.int (nI i), .int (nI n), .null] noW (.int (nI i)) := by
  refine Met.mk (Bh := noW) (by decide) (Nat.le_of_ble_eq_true rfl) ?_
  intro p e s m below meth c ls hF hB hl
  have hl : lv_has ls 3 [(0, .int (nI i)), (1, .int (nI n)), (2, .null)] := hl
  obtain ⟨hx, hb, hml, hr, hlk, hown, hG⟩ := id hF
  have hK := hG.K h0
  have hS : va_S noA s.heap s.heap [] := va_S.rf
  refine lv_iload_n hx hb dJ3_checkIndex_8e157_0 rfl (lv_at hl 0 rfl) ?_
  refine lv_if_lt (tgt := 9) hx hb dJ3_checkIndex_8e157_1 (by decide) (fun c_1 => absurd c_1 (nI_pos (by omega))) (fun c_1 => ?_)
  have n_1 := Int32.not_lt.mp c_1
  refine lv_iload_n hx hb dJ3_checkIndex_8e157_4 rfl (lv_at hl 0 rfl) ?_
  refine lv_iload_n hx hb dJ3_checkIndex_8e157_5 rfl (lv_at hl 1 rfl) ?_
  refine lv_icmp_lt (tgt := 16) hx hb dJ3_checkIndex_8e157_6 (by decide) (fun c_6 => ?_) (fun c_6 => absurd (nI_lt (by omega) (by omega)) c_6)
  have n_6 := Int32.not_le.mpr c_6
  refine lv_iload_n hx hb dJ3_checkIndex_8e157_16 rfl (lv_at hl 0 rfl) ?_
  exact pm_iret hF dJ3_checkIndex_8e157_17 (rfl)
