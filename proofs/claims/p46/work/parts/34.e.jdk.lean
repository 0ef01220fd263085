set_option maxHeartbeats 4000000 in
set_option maxRecDepth 100000 in
theorem m_J7_copyOf {X : Cx} {l : Launch} (h0 : Init X) {ow : Nat → Nat} {t a v n cap : Nat} {ml : Int32} {bs : Nat → Int32} {q N : Nat} (hq : cap < q) (hq2 : q ≤ 130) (hfit : sb_Fit bs) : MM X l yJ7_copyOf_9075b cJ7_copyOf_9075b 3 (some (.array .byte)) 1 60 1 130 [.ref v, .int (nI q)] (fun H => Tw X ow t (bfW X a v ml n cap bs) H ∧ N ≤ H.size) (fun w H => ∃ (v1 : Nat) (bs1 : Nat → Int32), w = some (.ref v1) ∧ N ≤ v1 ∧ v1 ≠ a ∧ v1 ≠ v ∧ Tw X ow t (bfW X a v ml n cap bs) H ∧ va_at X.D vwCl (v1, .inl (X.cB, q, .inl bs1)) H ∧ sb_Fit bs1 ∧ ∀ j, j < cap → bs1 j = bs j) (fun x => x = v ∨ N ≤ x) := by
  refine Met.mk (Bh := (fun H => Tw X ow t (bfW X a v ml n cap bs) H ∧ N ≤ H.size)) (by decide) (Nat.le_of_ble_eq_true rfl) ?_
  intro p e s m below meth c ls hF hB hl
  obtain ⟨hT, hN⟩ := hB
  have hl : lv_has ls 3 [(0, .ref v), (1, .int (nI q))] := hl
  obtain ⟨hx, hb, hml, hr, hlk, hown, hG⟩ := id hF
  have hK := hG.K h0
  have hav : a ≠ v := fun h => by have := hT.2.1 0 1 _ _ rfl rfl h; omega
  have ha := (hT.1 0 _ rfl).lt
  have hP0 : va_P X.D vwCl [(v, .inl (X.cB, cap, .inl bs))] s.heap := hT.1.sub [1] rfl
  have hD0 : va_D (fun x => x = v ∨ s.heap.size ≤ x) [(v, .inl (X.cB, cap, .inl bs))] := by
    refine ⟨fun i j p q hi hj _ => ?_, fun k q hk => ?_⟩
    · match i, j, hi, hj with
      | 0, 0, _, _ => rfl
      | n + 1, _, hi, _ => simp at hi
      | 0, n + 1, _, hj => simp at hj
    · match k, hk with
      | 0, hk => cases hk; exact Or.inl rfl
      | n + 1, hk => simp at hk
  have hS : va_S (fun x => x = v ∨ s.heap.size ≤ x) s.heap s.heap [] := va_S.rf
  have eN : (nI cap).toNatClampNeg = cap := nI_clamp (by omega)
  refine lv_iload_n hx hb dJ7_copyOf_9075b_0 rfl (lv_at hl 1 rfl) ?_
  refine lv_aload_n hx hb dJ7_copyOf_9075b_1 rfl (lv_at hl 0 rfl) ?_
  refine va_alen hx hb hK hP0 0 1 rfl rfl (v := nI cap) rfl dJ7_copyOf_9075b_2 ?_
  refine lv_icmp_ne (tgt := 14) hx hb dJ7_copyOf_9075b_3 (by decide) (fun c_3 => ?_) (fun c_3 => absurd c_3 (fun h => by have := (nI_eq (a := q) (b := cap) (by omega) (by omega)).mp h; omega))
  refine lv_iload_n hx hb dJ7_copyOf_9075b_14 rfl (lv_at hl 1 rfl) ?_
  refine va_newa (atype := .byte) hx hb (show (Cond.arrayClass (newarray.typeOf .byte)).before _ s = true from hG.hts h0 _ _ wa_byte) rfl hK hP0 hD0 hS (fun q hq => Or.inr hq) (N' := q) (a0 := (q, .inl (fun _ => 0))) (fun _ => rfl) (nI_pos (by omega)) (nI_clamp (by omega)) (by show q * 1 ≤ _; omega) (Nat.le_of_ble_eq_true rfl) (by show 0 + q ≤ 130; omega) dJ7_copyOf_9075b_15 (fun v1 cA H1 hK1 hP1 hD1 hS1 => ?_)
  have hcA : cA = X.cB := Option.some.inj ((va_nm_byte (hK1.2 3 _ rfl).2).symm.trans (va_nm_byte (hK.2 1 _ rfl).2))
  subst hcA
  have hvv : v1 ≠ v := fun h => by have := hD1.1 0 1 _ _ rfl rfl h.symm; omega
  have hv1 : s.heap.size ≤ v1 := (hD1.2 1 _ rfl).resolve_left hvv
  refine lv_astore_n (lv' := [(2, .ref v1), (0, .ref v), (1, .int (nI q))]) hx hb dJ7_copyOf_9075b_17 rfl hl (by decide) rfl (fun ls hl => ?_)
  refine lv_aload_n hx hb dJ7_copyOf_9075b_18 rfl (lv_at hl 1 rfl) ?_
  refine lv_iconst (v := 0) hx hb dJ7_copyOf_9075b_19 (by decide) ?_
  refine lv_aload_n hx hb dJ7_copyOf_9075b_20 rfl (lv_at hl 0 rfl) ?_
  refine lv_iconst (v := 0) hx hb dJ7_copyOf_9075b_21 (by decide) ?_
  refine lv_aload_n hx hb dJ7_copyOf_9075b_22 rfl (lv_at hl 1 rfl) ?_
  refine va_alen hx hb hK hP1 0 1 rfl rfl (v := nI cap) rfl dJ7_copyOf_9075b_23 ?_
  refine lv_iload_n hx hb dJ7_copyOf_9075b_24 rfl (lv_at hl 2 rfl) ?_
  refine va_mmin hx hb (by rw [hl.1]; exact hml) hown (hG.hts h0 _ _ wm_J7_304) (hG.hts h0 _ _ wt_J9_min_7cf53) (hG.hts h0 _ _ wz_J9) (hG.hts h0 _ _ wc_J9_min_7cf53) (Nat.le_of_ble_eq_true rfl) (Nat.le_of_ble_eq_true rfl) (Nat.le_of_ble_eq_true rfl) (by show 0 + q ≤ 130; omega) dJ7_copyOf_9075b_25 ?_
  refine lv_topE (y := nI cap) (if_neg (nI_nlt (by omega) (by omega))) ?_
  refine va_copyi hx hb (by rw [hl.1]; exact hml) hown (hG.hts h0 _ _ wm_J7_150) (hG.hts h0 _ _ wv_J10_arraycopy__Ljava_lang_Object_ILjava_lang_Object_II_V) (hG.hts h0 _ _ wt_J10_arraycopy__Ljava_lang_Object_ILjava_lang_Object_II_V) (hG.hts h0 _ _ wz_J10) hK hP1 hD1 hS1 0 1 1 1 rfl rfl rfl rfl rfl (by decide) (by decide) (nI_pos (by omega)) (by rw [eN]; exact Nat.le_of_eq (Nat.zero_add cap)) (by rw [eN]; show 0 + cap ≤ q; omega) (fun i _ => hfit _) (Nat.le_of_ble_eq_true rfl) (Nat.le_of_ble_eq_true rfl) dJ7_copyOf_9075b_28 (fun H2 locs2 hP2 hD2 hS2 => ?_)
  refine lv_aload_n hx hb dJ7_copyOf_9075b_31 rfl (lv_at hl 0 rfl) ?_
  have hT2 : Tw X ow t (bfW X a v ml n cap bs) H2 := by
    refine ⟨fun k x hk => ?_, hT.2⟩
    match k, hk with
    | 0, hk => cases hk; exact (hT.1 0 _ rfl).kept (hS2.2.1 a ha (fun h => h.elim (fun h => hav h) (fun h => by omega)))
    | 1, hk => cases hk; exact hP2 0 _ rfl
    | k + 2, hk => simp at hk
  have hv2 : va_at X.D vwCl (v1, .inl (X.cB, q, .inl (va_cpy bs (fun _ => 0) (0 : Int32).toNatClampNeg (0 : Int32).toNatClampNeg (nI cap).toNatClampNeg))) H2 := hP2 1 _ rfl
  refine W.widen (k := 1) (n := 130) (Nat.le_refl _) (by show 0 + q ≤ 130; omega) ?_
  have hS3 : va_S (fun x => x = v ∨ N ≤ x) s.heap H2 locs2 := hS2.wk (fun x hx => hx.imp id (fun h => by omega))
  exact W.aret hx hb hr (Or.inr ⟨_, rfl⟩) (Or.inr ⟨_, rfl⟩) (fun t ht _ => ⟨_, rfl, by rw [ht]; exact ⟨v1, _, rfl, by omega, by omega, hvv, hT2, hv2, sb_fitC hfit sb_fit0, fun j hj => by rw [eN]; exact sb_cpy0 hj⟩, hS3.F ht⟩) hS3.2.2 dJ7_copyOf_9075b_32 hlk
