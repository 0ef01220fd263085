theorem fit_all : ∀ n, n < 256 → tn ((nI n - nI 128) &&& 255) < 256 ∧ nI n - nI 128 = sb_b (tn ((nI n - nI 128) &&& 255)) := by decide +kernel
theorem fit_co {b : Int32} (h : fits .byte (.int b) = true) : tn (b &&& 255) < 256 ∧ b = sb_b (tn (b &&& 255)) := by
  have h1 : (-128 : Int32).toInt = -128 := by decide
  have h2 : (127 : Int32).toInt = 127 := by decide
  simp only [fits, Bool.and_eq_true, decide_eq_true_eq, Int32.le_iff_toInt_le, h1, h2] at h
  have e : b = nI (b.toInt + 128).toNat - nI 128 := by
    refine Int32.toInt_inj.mp ?_
    rw [pk_sub_toInt (by omega) (by decide)]
    omega
  have := fit_all (b.toInt + 128).toNat (by omega)
  rw [← e] at this
  exact this

set_option maxHeartbeats 4000000 in
set_option maxRecDepth 100000 in
theorem m_J5_append_i {X : Cx} {l : Launch} (h0 : Init X) {ow : Nat → Nat} {t a n N : Nat} {co : Nat → Nat} (hz : ∀ q, ow q = t → X.z ≤ q) (hNz : X.z ≤ N) {w : Nat} (hn : n + sb_dg w ≤ 60) (hw : w < 2 ^ 31) : MM X l yJ5_append_c97b9 cJ5_append_c97b9 4 (some (.object "java/lang/AbstractStringBuilder")) 4 104 1 130 [.ref a, .int (nI w)] (fun H => bfH X ow t a n co H ∧ N ≤ H.size) (fun x H => x = some (.ref a) ∧ ∃ (ow1 : Nat → Nat) (co1 : Nat → Nat), (∀ q, q < N → ow1 q = ow q) ∧ bfH X ow1 t a (n + sb_dg w) co1 H) (fun x => ow x = t ∨ N ≤ x) := by
  refine Met.mk (Bh := (fun H => bfH X ow t a n co H ∧ N ≤ H.size)) (by decide) (Nat.le_of_ble_eq_true rfl) ?_
  intro p e s m below meth c ls hF hB hl
  obtain ⟨⟨v, cap, mlx, bs, hB, hnc, h16, h130, hfit, hco, hmlx⟩, hN⟩ := hB
  have hl : lv_has ls 4 [(0, .ref a), (1, .int (nI w))] := hl
  obtain ⟨hx, hb, hml, hr, hlk, hown, hG⟩ := id hF
  have hK := hG.K h0
  have hS : va_S (fun x => ow x = t ∨ N ≤ x) s.heap s.heap [] := va_S.rf
  have hAo : ∀ q, q < X.z → ¬ (fun x => ow x = t ∨ N ≤ x) q := fun q h9 (h8 : ow q = t ∨ N ≤ q) => h8.elim (fun h => absurd (hz q h) (by omega)) (fun h => by omega)
  have hd := sb_dg_in w
  refine lv_aload_n hx hb dJ5_append_c97b9_0 rfl (lv_at hl 0 rfl) ?_
  refine g_get (ci := 0) (v := .int (nI n)) h0 hF inJ4 hB.1 0 rfl rfl 3 (by decide) wf_J5_79 rfl rfl dJ5_append_c97b9_1 ?_
  refine lv_istore_n (lv' := [(2, .int (nI n)), (0, .ref a), (1, .int (nI w))]) hx hb dJ5_append_c97b9_4 rfl hl (by decide) rfl (fun ls hl => ?_)
  refine lv_iload_n hx hb dJ5_append_c97b9_5 rfl (lv_at hl 0 rfl) ?_
  refine lv_iload_n hx hb dJ5_append_c97b9_6 rfl (lv_at hl 2 rfl) ?_
  refine core_p (v := .int (nI (sb_dg w))) (grS (n := 1) (As := [.int (nI w)]) (rest := [.int (nI n)]) h0 hF (m_J6_stringSize_0f7a4 h0 (w := w) hw) wm_J5_245 wt_J6_stringSize_0f7a4 wz_J6 wc_J6_stringSize_0f7a4 ⟨by decide, by decide, by decide +kernel⟩ rfl ⟨Nat.le_of_ble_eq_true rfl, Nat.le_of_ble_eq_true rfl⟩ trivial hS hAo ⟨Nat.le_of_ble_eq_true rfl, Nat.le_of_ble_eq_true rfl⟩ hl.1 rfl (Nat.le_of_ble_eq_true rfl) dJ5_append_c97b9_7) ?_
  refine lv_iadd hx hb dJ5_append_c97b9_10 ?_
  refine lv_topE (y := nI (n + sb_dg w)) (nI_add _ _) ?_
  refine lv_istore_n (lv' := [(3, .int (nI (n + sb_dg w))), (2, .int (nI n)), (0, .ref a), (1, .int (nI w))]) hx hb dJ5_append_c97b9_11 rfl hl (by decide) rfl (fun ls hl => ?_)
  refine lv_aload_n hx hb dJ5_append_c97b9_12 rfl (lv_at hl 2 rfl) ?_
  refine lv_iload_n hx hb dJ5_append_c97b9_13 rfl (lv_at hl 0 rfl) ?_
  refine core_m (A1 := fun q => ow q = t ∨ N ≤ q) (grPV (Bh := (fun H => Tw X ow t (bfW X a v mlx n cap bs) H ∧ N ≤ H.size)) (n := 1) (As := [.int (nI (n + sb_dg w))]) (rest := []) h0 hF (m_J5_ens h0 (ow := ow) (t := t) (a := a) (v := v) (ml := mlx) (n := n) (cap := cap) (bs := bs) (q := (n + sb_dg w)) (N := N) (by omega) h16 h130 hfit hz hNz hnc) wm_J5_100 wo_J5_ensureCapacityInternal_d00df wpv_ens wz_J5 wc_J5_ensureCapacityInternal_d00df wy_java_lang_AbstractStringBuilder_J5_ensureCapacityInternal__I_V rfl (by decide +kernel) rfl ⟨Nat.le_of_ble_eq_true rfl, Nat.le_of_ble_eq_true rfl⟩ ⟨_, hB.1 0 _ rfl⟩ ⟨hB, Nat.le_trans hN hS.1⟩ hS hAo ⟨Nat.le_of_ble_eq_true rfl, Nat.le_of_ble_eq_true rfl⟩ hl.1 rfl (Nat.le_of_ble_eq_true rfl) dJ5_append_c97b9_14) hS (fun q h8 => h8) (fun v' H locs hq' hz1 hk1 hS => ?_)
  obtain ⟨rfl, ow1, v1, cap1, bs1, hag, hB, hq1, h161, h1301, hfit1, hbs1⟩ := hq'
  refine lv_aload_n hx hb dJ5_append_c97b9_17 rfl (lv_at hl 2 rfl) ?_
  refine core_p (v := .int 1) (grU (C := RJ4) (owner := RJ5) (n := 0) (As := []) (rest := []) h0 hF (m_J5_isLatin1_aae02 h0 (ow := ow1) (t := t) (a := a) (v := v1) (ml := mlx) (n := n) (cap := cap1) (bs := bs1) ) wm_J5_83 wo_J5_isLatin1_aae02 ws_J4__J5_isLatin1_aae02 wz_J5 wc_J5_isLatin1_aae02 wy_java_lang_AbstractStringBuilder_J5_isLatin1___Z rfl ⟨by decide, by decide, by decide +kernel⟩ rfl ⟨Nat.le_of_ble_eq_true rfl, Nat.le_of_ble_eq_true rfl⟩ (va_recv hK hB.1 (q0 := 0) (ci := 0) rfl rfl) hB hS hAo ⟨Nat.le_of_ble_eq_true rfl, Nat.le_of_ble_eq_true rfl⟩ hl.1 rfl (Nat.le_of_ble_eq_true rfl) dJ5_append_c97b9_18) ?_
  refine lv_if_eq (tgt := 37) hx hb dJ5_append_c97b9_21 (by decide) (fun c_21 => absurd c_21 (by decide)) (fun c_21 => ?_)
  refine lv_iload_n hx hb dJ5_append_c97b9_24 rfl (lv_at hl 3 rfl) ?_
  refine lv_iload_n hx hb dJ5_append_c97b9_25 rfl (lv_at hl 0 rfl) ?_
  refine lv_aload_n hx hb dJ5_append_c97b9_26 rfl (lv_at hl 2 rfl) ?_
  refine g_get (ci := 0) (v := .ref v1) h0 hF inJ4 hB.1 0 rfl rfl 0 (by decide) wf_J5_15 rfl rfl dJ5_append_c97b9_27 ?_
  refine core_m (A1 := fun q => ow1 q = t) (grS (n := 3) (As := [.int (nI w), .int (nI (n + sb_dg w)), .ref v1]) (rest := []) h0 hF (m_J6_getChars h0 (ow := ow1) (t := t) (a := a) (v := v1) (ml := mlx) (n := n) (cap := cap1) (bs := bs1) (w := w) (P := n + sb_dg w) hw rfl hq1 h1301 hfit1 (fun q h => (agA hag h).elim (hz q) (fun h => Nat.le_trans hNz h))) wm_J5_248 wt_J6_getChars_ba4f3 wz_J6 wc_J6_getChars_ba4f3 ⟨by decide, by decide, by decide +kernel⟩ rfl ⟨Nat.le_of_ble_eq_true rfl, Nat.le_of_ble_eq_true rfl⟩ hB hS hAo ⟨Nat.le_of_ble_eq_true rfl, Nat.le_of_ble_eq_true rfl⟩ hl.1 rfl (Nat.le_of_ble_eq_true rfl) dJ5_append_c97b9_30) hS (fun q h8 => agA hag h8) (fun v' H locs hq' hz1 hk1 hS => ?_)
  obtain ⟨⟨rr, rfl⟩, bs2, hB, hfit2, hbs2⟩ := hq'
  refine lv_pop hx hb dJ5_append_c97b9_33 rfl ?_
  refine lv_goto (tgt := 48) hx hb dJ5_append_c97b9_34 (by decide) ?_
  refine lv_aload_n hx hb dJ5_append_c97b9_48 rfl (lv_at hl 2 rfl) ?_
  refine lv_iload_n hx hb dJ5_append_c97b9_49 rfl (lv_at hl 0 rfl) ?_
  have htg := hB.tag 0 rfl
  refine g_put (ci := 0) h0 hF inJ4 tyJ4 tyJ4_ok nmJ4 hB hS (agA hag htg) 0 rfl rfl 3 (by decide) wf_J5_79 rfl rfl (tyJ4_ok 3 (by decide)) rfl rfl (Nat.le_of_ble_eq_true rfl) dJ5_append_c97b9_50 (fun H locs oq hB' hS => ?_)
  have hB : Tw X ow1 t (bfW X a v1 mlx (n + sb_dg w) cap1 bs2) H := hB'
  refine lv_aload_n hx hb dJ5_append_c97b9_53 rfl (lv_at hl 2 rfl) ?_
  refine W.widen (k := 1) (n := 130) (by omega) (by omega) ?_
  exact mm_aret hF hS dJ5_append_c97b9_54 (⟨rfl, ow1, fun j => tn (bs2 j &&& 255), hag, v1, cap1, mlx, bs2, hB, hq1, h161, h1301, hfit2, fun j _ => fit_co (hfit2 j), hmlx⟩)

set_option maxHeartbeats 4000000 in
set_option maxRecDepth 100000 in
theorem m_J4_append_i {X : Cx} {l : Launch} (h0 : Init X) {ow : Nat → Nat} {t a n N : Nat} {co : Nat → Nat} (hz : ∀ q, ow q = t → X.z ≤ q) (hNz : X.z ≤ N) {w : Nat} (hn : n + sb_dg w ≤ 60) (hw : w < 2 ^ 31) : MM X l yJ4_append_bf812 cJ4_append_bf812 2 (some (.object "java/lang/StringBuilder")) 5 127 1 130 [.ref a, .int (nI w)] (fun H => bfH X ow t a n co H ∧ N ≤ H.size) (fun x H => x = some (.ref a) ∧ ∃ (ow1 : Nat → Nat) (co1 : Nat → Nat), (∀ q, q < N → ow1 q = ow q) ∧ bfH X ow1 t a (n + sb_dg w) co1 H) (fun x => ow x = t ∨ N ≤ x) := by
  refine Met.mk (Bh := (fun H => bfH X ow t a n co H ∧ N ≤ H.size)) (by decide) (Nat.le_of_ble_eq_true rfl) ?_
  intro p e s m below meth c ls hF hB hl
  have hbf0 := hB.1
  obtain ⟨⟨v, cap, mlx, bs, hB, hnc, h16, h130, hfit, hco, hmlx⟩, hN⟩ := hB
  have hl : lv_has ls 2 [(0, .ref a), (1, .int (nI w))] := hl
  obtain ⟨hx, hb, hml, hr, hlk, hown, hG⟩ := id hF
  have hK := hG.K h0
  have hS : va_S (fun x => ow x = t ∨ N ≤ x) s.heap s.heap [] := va_S.rf
  have hAo : ∀ q, q < X.z → ¬ (fun x => ow x = t ∨ N ≤ x) q := fun q h9 (h8 : ow q = t ∨ N ≤ q) => h8.elim (fun h => absurd (hz q h) (by omega)) (fun h => by omega)
  refine lv_aload_n hx hb dJ4_append_bf812_0 rfl (lv_at hl 0 rfl) ?_
  refine lv_iload_n hx hb dJ4_append_bf812_1 rfl (lv_at hl 1 rfl) ?_
  refine core_m (A1 := fun q => ow q = t ∨ N ≤ q) (grSU (Bh := (fun H => bfH X ow t a n co H ∧ N ≤ H.size)) (n := 1) (As := [.int (nI w)]) (rest := []) h0 hF (m_J5_append_i h0 (ow := ow) (t := t) (a := a) (n := n) (N := N) (co := co) hz hNz (w := w) hn hw) wm_J4_53 wo_J5_append_c97b9 wu_J4 wz_J5 wc_J5_append_c97b9 wy_java_lang_AbstractStringBuilder_J5_append__I_Ljava_lang_AbstractStringBuilder_ ⟨by decide, by decide +kernel⟩ rfl ⟨Nat.le_of_ble_eq_true rfl, Nat.le_of_ble_eq_true rfl⟩ (ci := 0) ⟨_, hB.1 0 _ rfl⟩ rfl ⟨hbf0, hN⟩ hS hAo ⟨Nat.le_of_ble_eq_true rfl, Nat.le_of_ble_eq_true rfl⟩ hl.1 rfl (Nat.le_of_ble_eq_true rfl) dJ4_append_bf812_2) hS (fun q h8 => h8) (fun v' H locs hq' hz1 hk1 hS => ?_)
  obtain ⟨rfl, ow1, co1, hag, hbf⟩ := hq'
  refine lv_pop hx hb dJ4_append_bf812_5 rfl ?_
  refine lv_aload_n hx hb dJ4_append_bf812_6 rfl (lv_at hl 0 rfl) ?_
  refine W.widen (k := 1) (n := 130) (by omega) (by omega) ?_
  exact mm_aret hF hS dJ4_append_bf812_7 (⟨rfl, ow1, co1, hag, hbf⟩)
