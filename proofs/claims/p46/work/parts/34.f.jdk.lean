theorem Tw.regrow {X : Cx} {ow : Nat → Nat} {t a v v1 q cap n : Nat} {ml : Int32} {bs bs1 : Nat → Int32} {H : Heap} (hB : Tw X ow t [(a, .inr (0, [.ref v1, .int 0, .int ml, .int (nI n)])), (v, .inl (X.cB, cap, .inl bs))] H) (hat : va_at X.D vwCl (v1, .inl (X.cB, q, .inl bs1)) H) (hva : v1 ≠ a) : Tw X (fun x => if x = v1 then t else ow x) t (bfW X a v1 ml n q bs1) H := by
  refine ⟨fun k x hk => ?_, fun i j p q hi hj hpq => ?_, fun k x hk => ?_⟩
  · match k, hk with
    | 0, hk => cases hk; exact hB.1 0 _ rfl
    | 1, hk => cases hk; exact hat
    | k + 2, hk => simp at hk
  · match i, j, hi, hj with
    | 0, 0, _, _ => rfl
    | 1, 1, _, _ => rfl
    | 0, 1, hi, hj => cases hi; cases hj; exact absurd hpq.symm hva
    | 1, 0, hi, hj => cases hi; cases hj; exact absurd hpq hva
    | n + 2, _, hi, _ => simp at hi
    | 0, n + 2, _, hj => simp at hj
    | 1, n + 2, _, hj => simp at hj
  · match k, hk with
    | 0, hk => cases hk; exact (if_neg (fun h => hva h.symm)).trans (hB.tag 0 rfl)
    | 1, hk => cases hk; exact if_pos rfl
    | k + 2, hk => simp at hk
theorem agA {ow ow1 : Nat → Nat} {N t a : Nat} (h : ∀ q, q < N → ow1 q = ow q) (ha : ow1 a = t) : ow a = t ∨ N ≤ a := by
  by_cases hN : a < N
  · exact Or.inl (by rw [← h a hN]; exact ha)
  · exact Or.inr (by omega)
theorem app_co {bs bs1 : Nat → Int32} {co : Nat → Nat} {n cv : Nat} (h : ∀ j, j < n → co j < 256 ∧ bs j = sb_b (co j)) (hb : ∀ j, j < n → bs1 j = bs j) (hc : cv < 256) : ∀ j, j < n + 1 → (if j = n then cv else co j) < 256 ∧ upd bs1 n (sb_b cv) j = sb_b (if j = n then cv else co j) := by
  intro j hj
  by_cases e : j = n
  · subst e; rw [if_pos rfl]; exact ⟨hc, by simp [upd]⟩
  · rw [if_neg e]
    have := h j (by omega)
    exact ⟨this.1, by rw [show upd bs1 n (sb_b cv) j = bs1 j from by simp [upd, e], hb j (by omega)]; exact this.2⟩

set_option maxHeartbeats 4000000 in
set_option maxRecDepth 100000 in
theorem m_J5_ens0 {X : Cx} {l : Launch} (h0 : Init X) {ow : Nat → Nat} {t a v n cap : Nat} {ml : Int32} {bs : Nat → Int32} {q N : Nat} (hq2 : q ≤ 60) (h16 : 16 ≤ cap) (h130 : cap ≤ 130) (hfit : sb_Fit bs) (hz : ∀ q, ow q = t → X.z ≤ q) (hNz : X.z ≤ N) (hnc : n ≤ cap) (hq : q ≤ cap)  : MM X l yJ5_ensureCapacityInternal_d00df cJ5_ensureCapacityInternal_d00df 3 none 3 82 1 130 [.ref a, .int (nI q)] (fun H => Tw X ow t (bfW X a v ml n cap bs) H ∧ N ≤ H.size) (fun w H => w = none ∧ ∃ (ow1 : Nat → Nat) (v1 cap1 : Nat) (bs1 : Nat → Int32), (∀ q, q < N → ow1 q = ow q) ∧ Tw X ow1 t (bfW X a v1 ml n cap1 bs1) H ∧ q ≤ cap1 ∧ 16 ≤ cap1 ∧ cap1 ≤ 130 ∧ sb_Fit bs1 ∧ ∀ j, j < n → bs1 j = bs j) (fun x => ow x = t ∨ N ≤ x) := by
  refine Met.mk (Bh := (fun H => Tw X ow t (bfW X a v ml n cap bs) H ∧ N ≤ H.size)) (by decide) (Nat.le_of_ble_eq_true rfl) ?_
  intro p e s m below meth c ls hF hB hl
  obtain ⟨hB, hN⟩ := hB
  have hl : lv_has ls 3 [(0, .ref a), (1, .int (nI q))] := hl
  obtain ⟨hx, hb, hml, hr, hlk, hown, hG⟩ := id hF
  have hK := hG.K h0
  have hS : va_S (fun x => ow x = t ∨ N ≤ x) s.heap s.heap [] := va_S.rf
  have hAo : ∀ q, q < X.z → ¬ (fun x => ow x = t ∨ N ≤ x) q := fun q h9 (h8 : ow q = t ∨ N ≤ q) => h8.elim (fun h => absurd (hz q h) (by omega)) (fun h => by omega)
  refine lv_aload_n hx hb dJ5_ensureCapacityInternal_d00df_0 rfl (lv_at hl 0 rfl) ?_
  refine g_get (ci := 0) (v := .ref v) h0 hF inJ4 hB.1 0 rfl rfl 0 (by decide) wf_J5_15 rfl rfl dJ5_ensureCapacityInternal_d00df_1 ?_
  refine va_alen hx hb hK hB.1 1 1 rfl rfl (v := nI cap) rfl dJ5_ensureCapacityInternal_d00df_4 ?_
  refine lv_aload_n hx hb dJ5_ensureCapacityInternal_d00df_5 rfl (lv_at hl 0 rfl) ?_
  refine g_get (ci := 0) (v := .int 0) h0 hF inJ4 hB.1 0 rfl rfl 1 (by decide) wf_J5_22 rfl rfl dJ5_ensureCapacityInternal_d00df_6 ?_
  refine lv_ishr hx hb dJ5_ensureCapacityInternal_d00df_9 ?_
  refine lv_topE (y := nI cap) (sb_shr0 _) ?_
  refine lv_istore_n (lv' := [(2, .int (nI cap)), (0, .ref a), (1, .int (nI q))]) hx hb dJ5_ensureCapacityInternal_d00df_10 rfl hl (by decide) rfl (fun ls hl => ?_)
  refine lv_iload_n hx hb dJ5_ensureCapacityInternal_d00df_11 rfl (lv_at hl 2 rfl) ?_
  refine lv_iload_n hx hb dJ5_ensureCapacityInternal_d00df_12 rfl (lv_at hl 0 rfl) ?_
  refine lv_isub hx hb dJ5_ensureCapacityInternal_d00df_13 ?_
  refine lv_if_le (tgt := 38) hx hb dJ5_ensureCapacityInternal_d00df_14 (by decide) (fun c_14 => ?_) (fun c_14 => absurd ((sub_le0 (by omega) (by omega)).mpr hq) c_14)
  have n_14 := Int32.not_lt.mpr c_14
  refine W.widen (k := 1) (n := 130) (by omega) (by omega) ?_
  exact mm_vret hF hS dJ5_ensureCapacityInternal_d00df_38 (⟨rfl, ow, v, cap, bs, fun _ _ => rfl, hB, hq, h16, h130, hfit, fun _ _ => rfl⟩)

set_option maxHeartbeats 4000000 in
set_option maxRecDepth 100000 in
theorem m_J5_ens1 {X : Cx} {l : Launch} (h0 : Init X) {ow : Nat → Nat} {t a v n cap : Nat} {ml : Int32} {bs : Nat → Int32} {q N : Nat} (hq2 : q ≤ 60) (h16 : 16 ≤ cap) (h130 : cap ≤ 130) (hfit : sb_Fit bs) (hz : ∀ q, ow q = t → X.z ≤ q) (hNz : X.z ≤ N) (hnc : n ≤ cap) (hq : cap < q)  : MM X l yJ5_ensureCapacityInternal_d00df cJ5_ensureCapacityInternal_d00df 3 none 3 82 1 130 [.ref a, .int (nI q)] (fun H => Tw X ow t (bfW X a v ml n cap bs) H ∧ N ≤ H.size) (fun w H => w = none ∧ ∃ (ow1 : Nat → Nat) (v1 cap1 : Nat) (bs1 : Nat → Int32), (∀ q, q < N → ow1 q = ow q) ∧ Tw X ow1 t (bfW X a v1 ml n cap1 bs1) H ∧ q ≤ cap1 ∧ 16 ≤ cap1 ∧ cap1 ≤ 130 ∧ sb_Fit bs1 ∧ ∀ j, j < n → bs1 j = bs j) (fun x => ow x = t ∨ N ≤ x) := by
  refine Met.mk (Bh := (fun H => Tw X ow t (bfW X a v ml n cap bs) H ∧ N ≤ H.size)) (by decide) (Nat.le_of_ble_eq_true rfl) ?_
  intro p e s m below meth c ls hF hB hl
  obtain ⟨hB, hN⟩ := hB
  have hl : lv_has ls 3 [(0, .ref a), (1, .int (nI q))] := hl
  obtain ⟨hx, hb, hml, hr, hlk, hown, hG⟩ := id hF
  have hK := hG.K h0
  have hS : va_S (fun x => ow x = t ∨ N ≤ x) s.heap s.heap [] := va_S.rf
  have hAo : ∀ q, q < X.z → ¬ (fun x => ow x = t ∨ N ≤ x) q := fun q h9 (h8 : ow q = t ∨ N ≤ q) => h8.elim (fun h => absurd (hz q h) (by omega)) (fun h => by omega)
  have hcp := sb_cap130 hq hq2
  refine lv_aload_n hx hb dJ5_ensureCapacityInternal_d00df_0 rfl (lv_at hl 0 rfl) ?_
  refine g_get (ci := 0) (v := .ref v) h0 hF inJ4 hB.1 0 rfl rfl 0 (by decide) wf_J5_15 rfl rfl dJ5_ensureCapacityInternal_d00df_1 ?_
  refine va_alen hx hb hK hB.1 1 1 rfl rfl (v := nI cap) rfl dJ5_ensureCapacityInternal_d00df_4 ?_
  refine lv_aload_n hx hb dJ5_ensureCapacityInternal_d00df_5 rfl (lv_at hl 0 rfl) ?_
  refine g_get (ci := 0) (v := .int 0) h0 hF inJ4 hB.1 0 rfl rfl 1 (by decide) wf_J5_22 rfl rfl dJ5_ensureCapacityInternal_d00df_6 ?_
  refine lv_ishr hx hb dJ5_ensureCapacityInternal_d00df_9 ?_
  refine lv_topE (y := nI cap) (sb_shr0 _) ?_
  refine lv_istore_n (lv' := [(2, .int (nI cap)), (0, .ref a), (1, .int (nI q))]) hx hb dJ5_ensureCapacityInternal_d00df_10 rfl hl (by decide) rfl (fun ls hl => ?_)
  refine lv_iload_n hx hb dJ5_ensureCapacityInternal_d00df_11 rfl (lv_at hl 2 rfl) ?_
  refine lv_iload_n hx hb dJ5_ensureCapacityInternal_d00df_12 rfl (lv_at hl 0 rfl) ?_
  refine lv_isub hx hb dJ5_ensureCapacityInternal_d00df_13 ?_
  refine lv_if_le (tgt := 38) hx hb dJ5_ensureCapacityInternal_d00df_14 (by decide) (fun c_14 => absurd c_14 (fun h => by have := (sub_le0 (by omega) (by omega)).mp h; omega)) (fun c_14 => ?_)
  have n_14 := Int32.not_le.mp c_14
  refine lv_aload_n hx hb dJ5_ensureCapacityInternal_d00df_17 rfl (lv_at hl 1 rfl) ?_
  refine lv_aload_n hx hb dJ5_ensureCapacityInternal_d00df_18 rfl (lv_at hl 1 rfl) ?_
  refine g_get (ci := 0) (v := .ref v) h0 hF inJ4 hB.1 0 rfl rfl 0 (by decide) wf_J5_15 rfl rfl dJ5_ensureCapacityInternal_d00df_19 ?_
  refine lv_aload_n hx hb dJ5_ensureCapacityInternal_d00df_22 rfl (lv_at hl 1 rfl) ?_
  refine lv_iload_n hx hb dJ5_ensureCapacityInternal_d00df_23 rfl (lv_at hl 2 rfl) ?_
  refine core_p (v := .int (nI (sb_cap q cap))) (grPV (n := 1) (As := [.int (nI q)]) (rest := [.ref v, .ref a]) h0 hF (m_J5_newCapacity_0f7a4 h0 (ow := ow) (t := t) (a := a) (v := v) (ml := ml) (n := n) (cap := cap) (bs := bs) (q := q) hq hq2) wm_J5_104 wo_J5_newCapacity_0f7a4 wpv_ncp wz_J5 wc_J5_newCapacity_0f7a4 wy_java_lang_AbstractStringBuilder_J5_newCapacity__I_I rfl (by decide +kernel) rfl ⟨Nat.le_of_ble_eq_true rfl, Nat.le_of_ble_eq_true rfl⟩ ⟨_, hB.1 0 _ rfl⟩ hB hS hAo ⟨Nat.le_of_ble_eq_true rfl, Nat.le_of_ble_eq_true rfl⟩ hl.1 rfl (Nat.le_of_ble_eq_true rfl) dJ5_ensureCapacityInternal_d00df_24) ?_
  refine lv_aload_n hx hb dJ5_ensureCapacityInternal_d00df_27 rfl (lv_at hl 1 rfl) ?_
  refine g_get (ci := 0) (v := .int 0) h0 hF inJ4 hB.1 0 rfl rfl 1 (by decide) wf_J5_22 rfl rfl dJ5_ensureCapacityInternal_d00df_28 ?_
  refine lv_ishl hx hb dJ5_ensureCapacityInternal_d00df_31 ?_
  refine lv_topE (y := nI (sb_cap q cap)) (sb_shl0 _) ?_
  refine core_m (A1 := fun q => q = v ∨ N ≤ q) (grS (Bh := (fun H => Tw X ow t (bfW X a v ml n cap bs) H ∧ N ≤ H.size)) (n := 2) (As := [.ref v, .int (nI (sb_cap q cap))]) (rest := [.ref a]) h0 hF (m_J7_copyOf h0 (ow := ow) (t := t) (a := a) (v := v) (n := n) (cap := cap) (ml := ml) (bs := bs) (q := sb_cap q cap) (N := N) (by omega) (by omega) hfit) wm_J5_108 wt_J7_copyOf_9075b wz_J7 wc_J7_copyOf_9075b ⟨by decide, by decide, by decide +kernel⟩ rfl ⟨Nat.le_of_ble_eq_true rfl, Nat.le_of_ble_eq_true rfl⟩ ⟨hB, Nat.le_trans hN hS.1⟩ hS hAo ⟨Nat.le_of_ble_eq_true rfl, Nat.le_of_ble_eq_true rfl⟩ hl.1 rfl (Nat.le_of_ble_eq_true rfl) dJ5_ensureCapacityInternal_d00df_32) hS (fun q (h8 : q = v ∨ N ≤ q) => (show ow q = t ∨ N ≤ q from h8.elim (fun h8 => Or.inl (by rw [h8]; exact hB.tag 1 rfl)) Or.inr)) (fun v' H locs hq' hz1 hk1 hS => ?_)
  obtain ⟨v1, bs1, rfl, hv1, hva, hvv, hB, hat, hfit1, hbs1⟩ := hq'
  have htg := hB.tag 0 rfl
  refine g_put (ci := 0) h0 hF inJ4 tyJ4 tyJ4_ok nmJ4 hB hS (Or.inl htg) 0 rfl rfl 0 (by decide) wf_J5_15 rfl rfl (tyJ4_ok 0 (by decide)) rfl rfl (Nat.le_of_ble_eq_true rfl) dJ5_ensureCapacityInternal_d00df_35 (fun H locs oq hB' hS => ?_)
  have hB2 := Tw.regrow hB' (hat.kept (oq v1 hva)) hva
  refine W.widen (k := 1) (n := 130) (by omega) (by omega) ?_
  exact mm_vret hF hS dJ5_ensureCapacityInternal_d00df_38 (⟨rfl, _, v1, sb_cap q cap, bs1, fun x hx => if_neg (by omega), hB2, by omega, by omega, by omega, hfit1, fun j hj => hbs1 j (by omega)⟩)

theorem m_J5_ens {X : Cx} {l : Launch} (h0 : Init X) {ow : Nat → Nat} {t a v n cap : Nat} {ml : Int32} {bs : Nat → Int32} {q N : Nat} (hq2 : q ≤ 60) (h16 : 16 ≤ cap) (h130 : cap ≤ 130) (hfit : sb_Fit bs) (hz : ∀ q, ow q = t → X.z ≤ q) (hNz : X.z ≤ N) (hnc : n ≤ cap) : MM X l yJ5_ensureCapacityInternal_d00df cJ5_ensureCapacityInternal_d00df 3 none 3 82 1 130 [.ref a, .int (nI q)] (fun H => Tw X ow t (bfW X a v ml n cap bs) H ∧ N ≤ H.size) (fun w H => w = none ∧ ∃ (ow1 : Nat → Nat) (v1 cap1 : Nat) (bs1 : Nat → Int32), (∀ q, q < N → ow1 q = ow q) ∧ Tw X ow1 t (bfW X a v1 ml n cap1 bs1) H ∧ q ≤ cap1 ∧ 16 ≤ cap1 ∧ cap1 ≤ 130 ∧ sb_Fit bs1 ∧ ∀ j, j < n → bs1 j = bs j) (fun x => ow x = t ∨ N ≤ x) := by
  by_cases hq : q ≤ cap
  · exact m_J5_ens0 h0 hq2 h16 h130 hfit hz hNz hnc hq
  · exact m_J5_ens1 h0 hq2 h16 h130 hfit hz hNz hnc (by omega)

set_option maxHeartbeats 4000000 in
set_option maxRecDepth 100000 in
theorem m_J5_append_c {X : Cx} {l : Launch} (h0 : Init X) {ow : Nat → Nat} {t a n N : Nat} {co : Nat → Nat} (hz : ∀ q, ow q = t → X.z ≤ q) (hNz : X.z ≤ N) {cv : Nat} (hn : n + 1 ≤ 60) (hcv : cv < 256) : MM X l yJ5_append_3fe6f cJ5_append_3fe6f 2 (some (.object "java/lang/AbstractStringBuilder")) 4 104 1 130 [.ref a, .int (nI cv)] (fun H => bfH X ow t a n co H ∧ N ≤ H.size) (fun w H => w = some (.ref a) ∧ ∃ ow1 : Nat → Nat, (∀ q, q < N → ow1 q = ow q) ∧ bfH X ow1 t a (n + 1) (fun j => if j = n then cv else co j) H) (fun x => ow x = t ∨ N ≤ x) := by
  refine Met.mk (Bh := (fun H => bfH X ow t a n co H ∧ N ≤ H.size)) (by decide) (Nat.le_of_ble_eq_true rfl) ?_
  intro p e s m below meth c ls hF hB hl
  obtain ⟨⟨v, cap, mlx, bs, hB, hnc, h16, h130, hfit, hco, hmlx⟩, hN⟩ := hB
  have hl : lv_has ls 2 [(0, .ref a), (1, .int (nI cv))] := hl
  obtain ⟨hx, hb, hml, hr, hlk, hown, hG⟩ := id hF
  have hK := hG.K h0
  have hS : va_S (fun x => ow x = t ∨ N ≤ x) s.heap s.heap [] := va_S.rf
  have hAo : ∀ q, q < X.z → ¬ (fun x => ow x = t ∨ N ≤ x) q := fun q h9 (h8 : ow q = t ∨ N ≤ q) => h8.elim (fun h => absurd (hz q h) (by omega)) (fun h => by omega)
  refine lv_aload_n hx hb dJ5_append_3fe6f_0 rfl (lv_at hl 0 rfl) ?_
  refine lv_aload_n hx hb dJ5_append_3fe6f_1 rfl (lv_at hl 0 rfl) ?_
  refine g_get (ci := 0) (v := .int (nI n)) h0 hF inJ4 hB.1 0 rfl rfl 3 (by decide) wf_J5_79 rfl rfl dJ5_append_3fe6f_2 ?_
  refine lv_iconst (v := 1) hx hb dJ5_append_3fe6f_5 (by decide) ?_
  refine lv_iadd hx hb dJ5_append_3fe6f_6 ?_
  refine lv_topE (y := nI (n + 1)) (nI_1 _) ?_
  refine core_m (A1 := fun q => ow q = t ∨ N ≤ q) (grPV (Bh := (fun H => Tw X ow t (bfW X a v mlx n cap bs) H ∧ N ≤ H.size)) (n := 1) (As := [.int (nI (n + 1))]) (rest := []) h0 hF (m_J5_ens h0 (ow := ow) (t := t) (a := a) (v := v) (ml := mlx) (n := n) (cap := cap) (bs := bs) (q := n + 1) (N := N) (by omega) h16 h130 hfit hz hNz hnc) wm_J5_100 wo_J5_ensureCapacityInternal_d00df wpv_ens wz_J5 wc_J5_ensureCapacityInternal_d00df wy_java_lang_AbstractStringBuilder_J5_ensureCapacityInternal__I_V rfl (by decide +kernel) rfl ⟨Nat.le_of_ble_eq_true rfl, Nat.le_of_ble_eq_true rfl⟩ ⟨_, hB.1 0 _ rfl⟩ ⟨hB, Nat.le_trans hN hS.1⟩ hS hAo ⟨Nat.le_of_ble_eq_true rfl, Nat.le_of_ble_eq_true rfl⟩ hl.1 rfl (Nat.le_of_ble_eq_true rfl) dJ5_append_3fe6f_7) hS (fun q h8 => h8) (fun v' H locs hq' hz1 hk1 hS => ?_)
  obtain ⟨rfl, ow1, v1, cap1, bs1, hag, hB, hq1, h161, h1301, hfit1, hbs1⟩ := hq'
  refine lv_aload_n hx hb dJ5_append_3fe6f_10 rfl (lv_at hl 0 rfl) ?_
  refine core_p (v := .int 1) (grU (C := RJ4) (owner := RJ5) (n := 0) (As := []) (rest := []) h0 hF (m_J5_isLatin1_aae02 h0 (ow := ow1) (t := t) (a := a) (v := v1) (ml := mlx) (n := n) (cap := cap1) (bs := bs1) ) wm_J5_83 wo_J5_isLatin1_aae02 ws_J4__J5_isLatin1_aae02 wz_J5 wc_J5_isLatin1_aae02 wy_java_lang_AbstractStringBuilder_J5_isLatin1___Z rfl ⟨by decide, by decide, by decide +kernel⟩ rfl ⟨Nat.le_of_ble_eq_true rfl, Nat.le_of_ble_eq_true rfl⟩ (va_recv hK hB.1 (q0 := 0) (ci := 0) rfl rfl) hB hS hAo ⟨Nat.le_of_ble_eq_true rfl, Nat.le_of_ble_eq_true rfl⟩ hl.1 rfl (Nat.le_of_ble_eq_true rfl) dJ5_append_3fe6f_11) ?_
  refine lv_if_eq (tgt := 45) hx hb dJ5_append_3fe6f_14 (by decide) (fun c_14 => absurd c_14 (by decide)) (fun c_14 => ?_)
  refine lv_iload_n hx hb dJ5_append_3fe6f_17 rfl (lv_at hl 1 rfl) ?_
  refine core_p (v := .int 1) (grS (n := 1) (As := [.int (nI cv)]) (rest := []) h0 hF (m_J1_canEncode_fc78d h0 (cv := cv) hcv) wm_J5_191 wt_J1_canEncode_fc78d wz_J1 wc_J1_canEncode_fc78d ⟨by decide, by decide, by decide +kernel⟩ rfl ⟨Nat.le_of_ble_eq_true rfl, Nat.le_of_ble_eq_true rfl⟩ trivial hS hAo ⟨Nat.le_of_ble_eq_true rfl, Nat.le_of_ble_eq_true rfl⟩ hl.1 rfl (Nat.le_of_ble_eq_true rfl) dJ5_append_3fe6f_18) ?_
  refine lv_if_eq (tgt := 45) hx hb dJ5_append_3fe6f_21 (by decide) (fun c_21 => absurd c_21 (by decide)) (fun c_21 => ?_)
  refine lv_aload_n hx hb dJ5_append_3fe6f_24 rfl (lv_at hl 0 rfl) ?_
  refine g_get (ci := 0) (v := .ref v1) h0 hF inJ4 hB.1 0 rfl rfl 0 (by decide) wf_J5_15 rfl rfl dJ5_append_3fe6f_25 ?_
  refine lv_aload_n hx hb dJ5_append_3fe6f_28 rfl (lv_at hl 0 rfl) ?_
  refine lv_dup hx hb dJ5_append_3fe6f_29 rfl ?_
  refine g_get (ci := 0) (v := .int (nI n)) h0 hF inJ4 hB.1 0 rfl rfl 3 (by decide) wf_J5_79 rfl rfl dJ5_append_3fe6f_30 ?_
  refine lv_dup_x1 hx hb dJ5_append_3fe6f_33 rfl rfl ?_
  refine lv_iconst (v := 1) hx hb dJ5_append_3fe6f_34 (by decide) ?_
  refine lv_iadd hx hb dJ5_append_3fe6f_35 ?_
  refine lv_topE (y := nI (n + 1)) (nI_1 _) ?_
  have htg := hB.tag 0 rfl
  refine g_put (ci := 0) h0 hF inJ4 tyJ4 tyJ4_ok nmJ4 hB hS (agA hag htg) 0 rfl rfl 3 (by decide) wf_J5_79 rfl rfl (tyJ4_ok 3 (by decide)) rfl rfl (Nat.le_of_ble_eq_true rfl) dJ5_append_3fe6f_36 (fun H locs oq hB' hS => ?_)
  have hB : Tw X ow1 t (bfW X a v1 mlx (n + 1) cap1 bs1) H := hB'
  refine lv_iload_n hx hb dJ5_append_3fe6f_39 rfl (lv_at hl 1 rfl) ?_
  refine lv_i2b (v := (nI cv).toInt8.toInt32) hx hb dJ5_append_3fe6f_40 (rfl) ?_
  have htg := hB.tag 1 rfl
  refine g_bast hx hb hK hB hS (agA hag htg) 1 1 rfl rfl n (rfl) (by omega) (by omega) (y := sb_b cv) (pk_vb _) dJ5_append_3fe6f_41 (fun H locs oq hz1 hB' hS => ?_)
  have hB : Tw X ow1 t (bfW X a v1 mlx (n + 1) cap1 (upd bs1 n (sb_b cv))) H := hB'
  refine lv_goto (tgt := 75) hx hb dJ5_append_3fe6f_42 (by decide) ?_
  refine lv_aload_n hx hb dJ5_append_3fe6f_75 rfl (lv_at hl 0 rfl) ?_
  refine W.widen (k := 1) (n := 130) (by omega) (by omega) ?_
  exact mm_aret hF hS dJ5_append_3fe6f_76 (⟨rfl, ow1, hag, v1, cap1, mlx, _, hB, by omega, h161, h1301, sb_fitU hfit1 (sb_fitB _), app_co hco hbs1 hcv, hmlx⟩)

set_option maxHeartbeats 4000000 in
set_option maxRecDepth 100000 in
theorem m_J4_append_c {X : Cx} {l : Launch} (h0 : Init X) {ow : Nat → Nat} {t a n N : Nat} {co : Nat → Nat} (hz : ∀ q, ow q = t → X.z ≤ q) (hNz : X.z ≤ N) {cv : Nat} (hn : n + 1 ≤ 60) (hcv : cv < 256) : MM X l yJ4_append_cf468 cJ4_append_cf468 2 (some (.object "java/lang/StringBuilder")) 5 125 1 130 [.ref a, .int (nI cv)] (fun H => bfH X ow t a n co H ∧ N ≤ H.size) (fun w H => w = some (.ref a) ∧ ∃ ow1 : Nat → Nat, (∀ q, q < N → ow1 q = ow q) ∧ bfH X ow1 t a (n + 1) (fun j => if j = n then cv else co j) H) (fun x => ow x = t ∨ N ≤ x) := by
  refine Met.mk (Bh := (fun H => bfH X ow t a n co H ∧ N ≤ H.size)) (by decide) (Nat.le_of_ble_eq_true rfl) ?_
  intro p e s m below meth c ls hF hB hl
  have hbf0 := hB.1
  obtain ⟨⟨v, cap, mlx, bs, hB, hnc, h16, h130, hfit, hco, hmlx⟩, hN⟩ := hB
  have hl : lv_has ls 2 [(0, .ref a), (1, .int (nI cv))] := hl
  obtain ⟨hx, hb, hml, hr, hlk, hown, hG⟩ := id hF
  have hK := hG.K h0
  have hS : va_S (fun x => ow x = t ∨ N ≤ x) s.heap s.heap [] := va_S.rf
  have hAo : ∀ q, q < X.z → ¬ (fun x => ow x = t ∨ N ≤ x) q := fun q h9 (h8 : ow q = t ∨ N ≤ q) => h8.elim (fun h => absurd (hz q h) (by omega)) (fun h => by omega)
  refine lv_aload_n hx hb dJ4_append_cf468_0 rfl (lv_at hl 0 rfl) ?_
  refine lv_iload_n hx hb dJ4_append_cf468_1 rfl (lv_at hl 1 rfl) ?_
  refine core_m (A1 := fun q => ow q = t ∨ N ≤ q) (grSU (Bh := (fun H => bfH X ow t a n co H ∧ N ≤ H.size)) (n := 1) (As := [.int (nI cv)]) (rest := []) h0 hF (m_J5_append_c h0 (ow := ow) (t := t) (a := a) (n := n) (N := N) (co := co) hz hNz (cv := cv) hn hcv) wm_J4_50 wo_J5_append_3fe6f wu_J4 wz_J5 wc_J5_append_3fe6f wy_java_lang_AbstractStringBuilder_J5_append__C_Ljava_lang_AbstractStringBuilder_ ⟨by decide, by decide +kernel⟩ rfl ⟨Nat.le_of_ble_eq_true rfl, Nat.le_of_ble_eq_true rfl⟩ (ci := 0) ⟨_, hB.1 0 _ rfl⟩ rfl ⟨hbf0, hN⟩ hS hAo ⟨Nat.le_of_ble_eq_true rfl, Nat.le_of_ble_eq_true rfl⟩ hl.1 rfl (Nat.le_of_ble_eq_true rfl) dJ4_append_cf468_2) hS (fun q h8 => h8) (fun v' H locs hq' hz1 hk1 hS => ?_)
  obtain ⟨rfl, ow1, hag, hbf⟩ := hq'
  refine lv_pop hx hb dJ4_append_cf468_5 rfl ?_
  refine lv_aload_n hx hb dJ4_append_cf468_6 rfl (lv_at hl 0 rfl) ?_
  refine W.widen (k := 1) (n := 130) (by omega) (by omega) ?_
  exact mm_aret hF hS dJ4_append_cf468_7 (⟨rfl, ow1, hag, hbf⟩)

set_option maxHeartbeats 4000000 in
set_option maxRecDepth 100000 in
theorem m_J5_setLength {X : Cx} {l : Launch} (h0 : Init X) {ow : Nat → Nat} {t a n N : Nat} {co : Nat → Nat} (hz : ∀ q, ow q = t → X.z ≤ q) (hNz : X.z ≤ N) (hn : n ≤ 60) : MM X l yJ5_setLength_d00df cJ5_setLength_d00df 2 none 4 104 1 130 [.ref a, .int 0] (fun H => bfH X ow t a n co H ∧ N ≤ H.size) (fun w H => w = none ∧ ∃ ow1 : Nat → Nat, (∀ q, q < N → ow1 q = ow q) ∧ bfH X ow1 t a 0 co H) (fun x => ow x = t ∨ N ≤ x) := by
  refine Met.mk (Bh := (fun H => bfH X ow t a n co H ∧ N ≤ H.size)) (by decide) (Nat.le_of_ble_eq_true rfl) ?_
  intro p e s m below meth c ls hF hB hl
  obtain ⟨⟨v, cap, mlx, bs, hB, hnc, h16, h130, hfit, hco, hmlx⟩, hN⟩ := hB
  have hl : lv_has ls 2 [(0, .ref a), (1, .int 0)] := hl
  obtain ⟨hx, hb, hml, hr, hlk, hown, hG⟩ := id hF
  have hK := hG.K h0
  have hS : va_S (fun x => ow x = t ∨ N ≤ x) s.heap s.heap [] := va_S.rf
  have hAo : ∀ q, q < X.z → ¬ (fun x => ow x = t ∨ N ≤ x) q := fun q h9 (h8 : ow q = t ∨ N ≤ q) => h8.elim (fun h => absurd (hz q h) (by omega)) (fun h => by omega)
  refine lv_iload_n hx hb dJ5_setLength_d00df_0 rfl (lv_at hl 1 rfl) ?_
  refine lv_if_ge (tgt := 13) hx hb dJ5_setLength_d00df_1 (by decide) (fun c_1 => ?_) (fun c_1 => absurd c_1 (by decide))
  refine lv_aload_n hx hb dJ5_setLength_d00df_13 rfl (lv_at hl 0 rfl) ?_
  refine lv_iload_n hx hb dJ5_setLength_d00df_14 rfl (lv_at hl 1 rfl) ?_
  refine core_m (A1 := fun q => ow q = t ∨ N ≤ q) (grPV (Bh := (fun H => Tw X ow t (bfW X a v mlx n cap bs) H ∧ N ≤ H.size)) (n := 1) (As := [.int 0]) (rest := []) h0 hF (m_J5_ens h0 (ow := ow) (t := t) (a := a) (v := v) (ml := mlx) (n := n) (cap := cap) (bs := bs) (q := 0) (N := N) (by omega) h16 h130 hfit hz hNz hnc) wm_J5_100 wo_J5_ensureCapacityInternal_d00df wpv_ens wz_J5 wc_J5_ensureCapacityInternal_d00df wy_java_lang_AbstractStringBuilder_J5_ensureCapacityInternal__I_V rfl (by decide +kernel) rfl ⟨Nat.le_of_ble_eq_true rfl, Nat.le_of_ble_eq_true rfl⟩ ⟨_, hB.1 0 _ rfl⟩ ⟨hB, Nat.le_trans hN hS.1⟩ hS hAo ⟨Nat.le_of_ble_eq_true rfl, Nat.le_of_ble_eq_true rfl⟩ hl.1 rfl (Nat.le_of_ble_eq_true rfl) dJ5_setLength_d00df_15) hS (fun q h8 => h8) (fun v' H locs hq' hz1 hk1 hS => ?_)
  obtain ⟨rfl, ow1, v1, cap1, bs1, hag, hB, hq1, h161, h1301, hfit1, hbs1⟩ := hq'
  refine lv_aload_n hx hb dJ5_setLength_d00df_18 rfl (lv_at hl 0 rfl) ?_
  refine g_get (ci := 0) (v := .int (nI n)) h0 hF inJ4 hB.1 0 rfl rfl 3 (by decide) wf_J5_79 rfl rfl dJ5_setLength_d00df_19 ?_
  refine lv_iload_n hx hb dJ5_setLength_d00df_22 rfl (lv_at hl 1 rfl) ?_
  refine lv_icmp_ge (tgt := 63) hx hb dJ5_setLength_d00df_23 (by decide) (fun c_23 => ?_) (fun c_23 => absurd (nI_pos' (by omega)) c_23)
  have n_23 := Int32.not_lt.mpr c_23
  refine lv_aload_n hx hb dJ5_setLength_d00df_63 rfl (lv_at hl 0 rfl) ?_
  refine g_get (ci := 0) (v := .int (nI n)) h0 hF inJ4 hB.1 0 rfl rfl 3 (by decide) wf_J5_79 rfl rfl dJ5_setLength_d00df_64 ?_
  refine lv_iload_n hx hb dJ5_setLength_d00df_67 rfl (lv_at hl 1 rfl) ?_
  refine lv_icmp_le (tgt := 76) hx hb dJ5_setLength_d00df_68 (by decide) (fun c_68 => ?_) (fun c_68 => ?_)
  · have n_68 := Int32.not_lt.mpr c_68
    refine lv_aload_n hx hb dJ5_setLength_d00df_76 rfl (lv_at hl 0 rfl) ?_
    refine lv_iload_n hx hb dJ5_setLength_d00df_77 rfl (lv_at hl 1 rfl) ?_
    have htg := hB.tag 0 rfl
    refine g_put (ci := 0) h0 hF inJ4 tyJ4 tyJ4_ok nmJ4 hB hS (agA hag htg) 0 rfl rfl 3 (by decide) wf_J5_79 rfl rfl (tyJ4_ok 3 (by decide)) rfl rfl (Nat.le_of_ble_eq_true rfl) dJ5_setLength_d00df_78 (fun H locs oq hB' hS => ?_)
    have hB : Tw X ow1 t (bfW X a v1 mlx 0 cap1 bs1) H := hB'
    refine W.widen (k := 1) (n := 130) (by omega) (by omega) ?_
    exact mm_vret hF hS dJ5_setLength_d00df_81 (⟨rfl, ow1, hag, v1, cap1, _, _, hB, Nat.zero_le _, h161, h1301, hfit1, fun j hj => absurd hj (Nat.not_lt_zero _), hmlx⟩)
  · have n_68 := Int32.not_le.mp c_68
    refine lv_aload_n hx hb dJ5_setLength_d00df_71 rfl (lv_at hl 0 rfl) ?_
    refine lv_iconst (v := 1) hx hb dJ5_setLength_d00df_72 (by decide) ?_
    have htg := hB.tag 0 rfl
    refine g_put (ci := 0) h0 hF inJ4 tyJ4 tyJ4_ok nmJ4 hB hS (agA hag htg) 0 rfl rfl 2 (by decide) wf_J5_73 rfl rfl (tyJ4_ok 2 (by decide)) rfl rfl (Nat.le_of_ble_eq_true rfl) dJ5_setLength_d00df_73 (fun H locs oq hB' hS => ?_)
    have hB : Tw X ow1 t (bfW X a v1 1 n cap1 bs1) H := hB'
    refine lv_aload_n hx hb dJ5_setLength_d00df_76 rfl (lv_at hl 0 rfl) ?_
    refine lv_iload_n hx hb dJ5_setLength_d00df_77 rfl (lv_at hl 1 rfl) ?_
    have htg := hB.tag 0 rfl
    refine g_put (ci := 0) h0 hF inJ4 tyJ4 tyJ4_ok nmJ4 hB hS (agA hag htg) 0 rfl rfl 3 (by decide) wf_J5_79 rfl rfl (tyJ4_ok 3 (by decide)) rfl rfl (Nat.le_of_ble_eq_true rfl) dJ5_setLength_d00df_78 (fun H locs oq hB' hS => ?_)
    have hB : Tw X ow1 t (bfW X a v1 1 0 cap1 bs1) H := hB'
    refine W.widen (k := 1) (n := 130) (by omega) (by omega) ?_
    exact mm_vret hF hS dJ5_setLength_d00df_81 (⟨rfl, ow1, hag, v1, cap1, _, _, hB, Nat.zero_le _, h161, h1301, hfit1, fun j hj => absurd hj (Nat.not_lt_zero _), Or.inr rfl⟩)

set_option maxHeartbeats 4000000 in
set_option maxRecDepth 100000 in
theorem m_J4_setLength {X : Cx} {l : Launch} (h0 : Init X) {ow : Nat → Nat} {t a n N : Nat} {co : Nat → Nat} (hz : ∀ q, ow q = t → X.z ≤ q) (hNz : X.z ≤ N) (hn : n ≤ 60) : MM X l yJ4_setLength_d00df cJ4_setLength_d00df 2 none 5 125 1 130 [.ref a, .int 0] (fun H => bfH X ow t a n co H ∧ N ≤ H.size) (fun w H => w = none ∧ ∃ ow1 : Nat → Nat, (∀ q, q < N → ow1 q = ow q) ∧ bfH X ow1 t a 0 co H) (fun x => ow x = t ∨ N ≤ x) := by
  refine Met.mk (Bh := (fun H => bfH X ow t a n co H ∧ N ≤ H.size)) (by decide) (Nat.le_of_ble_eq_true rfl) ?_
  intro p e s m below meth c ls hF hB hl
  have hbf0 := hB.1
  obtain ⟨⟨v, cap, mlx, bs, hB, hnc, h16, h130, hfit, hco, hmlx⟩, hN⟩ := hB
  have hl : lv_has ls 2 [(0, .ref a), (1, .int 0)] := hl
  obtain ⟨hx, hb, hml, hr, hlk, hown, hG⟩ := id hF
  have hK := hG.K h0
  have hS : va_S (fun x => ow x = t ∨ N ≤ x) s.heap s.heap [] := va_S.rf
  have hAo : ∀ q, q < X.z → ¬ (fun x => ow x = t ∨ N ≤ x) q := fun q h9 (h8 : ow q = t ∨ N ≤ q) => h8.elim (fun h => absurd (hz q h) (by omega)) (fun h => by omega)
  refine lv_aload_n hx hb dJ4_setLength_d00df_0 rfl (lv_at hl 0 rfl) ?_
  refine lv_iload_n hx hb dJ4_setLength_d00df_1 rfl (lv_at hl 1 rfl) ?_
  refine core_m (A1 := fun q => ow q = t ∨ N ≤ q) (grSU (Bh := (fun H => bfH X ow t a n co H ∧ N ≤ H.size)) (n := 1) (As := [.int 0]) (rest := []) h0 hF (m_J5_setLength h0 (ow := ow) (t := t) (a := a) (n := n) (N := N) (co := co) hz hNz hn) wm_J4_333 wo_J5_setLength_d00df wu_J4 wz_J5 wc_J5_setLength_d00df wy_java_lang_AbstractStringBuilder_J5_setLength__I_V ⟨by decide, by decide +kernel⟩ rfl ⟨Nat.le_of_ble_eq_true rfl, Nat.le_of_ble_eq_true rfl⟩ (ci := 0) ⟨_, hB.1 0 _ rfl⟩ rfl ⟨hbf0, hN⟩ hS hAo ⟨Nat.le_of_ble_eq_true rfl, Nat.le_of_ble_eq_true rfl⟩ hl.1 rfl (Nat.le_of_ble_eq_true rfl) dJ4_setLength_d00df_2) hS (fun q h8 => h8) (fun v' H locs hq' hz1 hk1 hS => ?_)
  obtain ⟨rfl, ow1, hag, hbf⟩ := hq'
  refine W.widen (k := 1) (n := 130) (by omega) (by omega) ?_
  exact mm_vret hF hS dJ4_setLength_d00df_5 (⟨rfl, ow1, hag, hbf⟩)
