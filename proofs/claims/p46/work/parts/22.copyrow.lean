theorem va_S.wk {A B : Nat → Prop} {H0 H : Heap} {locs : List Loc} (h : va_S A H0 H locs) (hAB : ∀ q, A q → B q) : va_S B H0 H locs := ⟨h.1, fun q h1 h2 => h.2.1 q h1 (fun h3 => h2 (hAB q h3)), fun l hl => hAB _ (h.2.2 l hl)⟩
theorem va_D2 {x y : Nat} {e1 e2 : va_E} (h : x ≠ y) : va_D (fun q => q = x ∨ q = y) [(x, e1), (y, e2)] := by
  refine ⟨fun i j p q hi hj hpq => ?_, fun k q hk => ?_⟩
  · match i, j, hi, hj with
    | 0, 0, _, _ => rfl
    | 1, 1, _, _ => rfl
    | 0, 1, hi, hj => cases hi; cases hj; exact absurd hpq h
    | 1, 0, hi, hj => cases hi; cases hj; exact absurd hpq.symm h
    | n + 2, _, hi, _ => simp at hi
    | 0, n + 2, _, hj => simp at hj
    | 1, n + 2, _, hj => simp at hj
  · match k, hk with
    | 0, hk => cases hk; exact Or.inl rfl
    | 1, hk => cases hk; exact Or.inr rfl
    | n + 2, hk => simp at hk
set_option maxHeartbeats 4000000 in
set_option maxRecDepth 100000 in
theorem m_X9_copyRow {X : Cx} {l : Launch} (h0 : Init X) {ow : Nat → Nat} {t u : Nat} {ws ws2 : va_W} {x y N : Nat} {F G : Nat → Int32} (htu : t ≠ u) (p0 q0 : Nat) (hp : ws[p0]? = some (y, .inl (X.cI, N, .inl G))) (hq : ws2[q0]? = some (x, .inl (X.cI, N, .inl F))) (hN : N < 1000) : MM X l yX9_copyRow cX9_copyRow 2 none 1 60 0 0 [.ref x, .ref y] (fun H => Tw X ow t ws H ∧ Tw X ow u ws2 H) (fun v H => v = none ∧ Tw X ow t (ws.set p0 (y, .inl (X.cI, N, .inl F))) H ∧ Tw X ow u ws2 H) (fun q => ow q = t ∨ ow q = u) := by
  refine Met.mk (Bh := (fun H => Tw X ow t ws H ∧ Tw X ow u ws2 H)) (by decide) (Nat.le_of_ble_eq_true rfl) ?_
  intro p e s m below meth c ls hF hB hl
  obtain ⟨hT, hU⟩ := hB
  have hl : lv_has ls 2 [(0, .ref x), (1, .ref y)] := hl
  obtain ⟨hx, hb, hml, hr, hlk, hown, hG⟩ := id hF
  have hK := hG.K h0
  have tx : ow x = u := hU.tag q0 hq
  have ty : ow y = t := hT.tag p0 hp
  have hxy : x ≠ y := fun h => htu (by rw [← tx, ← ty, h])
  have hP0 : va_P X.D vwCl [(x, .inl (X.cI, N, .inl F)), (y, .inl (X.cI, N, .inl G))] s.heap := (hU.1.sub (ws' := [(x, .inl (X.cI, N, .inl F))]) [q0] (by simp [hq])).app (hT.1.sub (ws' := [(y, .inl (X.cI, N, .inl G))]) [p0] (by simp [hp]))
  have hD0 : va_D (fun q => q = x ∨ q = y) [(x, .inl (X.cI, N, .inl F)), (y, .inl (X.cI, N, .inl G))] := va_D2 hxy
  have hS : va_S (fun q => q = x ∨ q = y) s.heap s.heap [] := va_S.rf
  have eN : (nI N).toNatClampNeg = N := nI_clamp (by omega)
  refine lv_aload_n hx hb dX9_copyRow_0 rfl (lv_at hl 0 rfl) ?_
  refine lv_iconst (v := 0) hx hb dX9_copyRow_1 (by decide) ?_
  refine lv_aload_n hx hb dX9_copyRow_2 rfl (lv_at hl 1 rfl) ?_
  refine lv_iconst (v := 0) hx hb dX9_copyRow_3 (by decide) ?_
  refine lv_aload_n hx hb dX9_copyRow_4 rfl (lv_at hl 0 rfl) ?_
  refine va_alen hx hb hK hP0 0 0 rfl rfl (v := nI N) rfl dX9_copyRow_5 ?_
  refine lv_aload_n hx hb dX9_copyRow_6 rfl (lv_at hl 1 rfl) ?_
  refine va_alen hx hb hK hP0 1 0 rfl rfl (v := nI N) rfl dX9_copyRow_7 ?_
  refine va_mmin hx hb (by rw [hl.1]; exact hml) hown (hG.hts h0 _ _ wm_X9_417) (hG.hts h0 _ _ wt_J9_min_7cf53) (hG.hts h0 _ _ wz_J9) (hG.hts h0 _ _ wc_J9_min_7cf53) (Nat.le_of_ble_eq_true rfl) (Nat.le_of_ble_eq_true rfl) (Nat.zero_le _) (Nat.zero_le _) dX9_copyRow_8 ?_
  refine lv_topE (y := nI N) (ite_self _) ?_
  refine va_copyi hx hb (by rw [hl.1]; exact hml) hown (hG.hts h0 _ _ wm_X9_422) (hG.hts h0 _ _ wv_J10_arraycopy__Ljava_lang_Object_ILjava_lang_Object_II_V) (hG.hts h0 _ _ wt_J10_arraycopy__Ljava_lang_Object_ILjava_lang_Object_II_V) (hG.hts h0 _ _ wz_J10) hK hP0 hD0 hS 0 1 0 0 rfl rfl rfl rfl rfl (by decide) (by decide) (nI_pos (by omega)) (by rw [eN]; exact Nat.le_of_eq (Nat.zero_add N)) (by rw [eN]; exact Nat.le_of_eq (Nat.zero_add N)) (fun _ _ => rfl) (Nat.le_of_ble_eq_true rfl) (Nat.le_of_ble_eq_true rfl) dX9_copyRow_11 (fun H1 locs1 hP1 hD1 hS1 => ?_)
  have hy1 : va_at X.D vwCl (y, .inl (X.cI, N, .inl F)) H1 := by
    have h9 : H1[y]? = some (vp_cell X.cI (N, .inl (va_cpy F G (0 : Int32).toNatClampNeg (0 : Int32).toNatClampNeg (nI N).toNatClampNeg))) := hP1 1 _ rfl
    show H1[y]? = some (vp_cell X.cI (N, .inl F))
    rw [h9]
    refine congrArg some (vp_cell_eq X.cI N fun j hj => ?_)
    rw [eN]
    exact sb_cpy0 hj
  have hx1 : va_at X.D vwCl (x, .inl (X.cI, N, .inl F)) H1 := hP1 0 _ rfl
  have hk : ∀ q : Nat, q < s.heap.size → q ≠ x → q ≠ y → H1[q]? = s.heap[q]? := fun q h1 h2 h3 => hS1.2.1 q h1 (fun h => h.elim h2 h3)
  have hU1 : Tw X ow u ws2 H1 := by
    refine ⟨fun k q hk2 => ?_, hU.2⟩
    by_cases hqx : q.1 = x
    · have hkq : k = q0 := hU.2.1 k q0 q _ hk2 hq hqx
      subst hkq
      rw [hq] at hk2
      cases hk2
      exact hx1
    · exact (hU.1 k q hk2).kept (hk q.1 (hU.1 k q hk2).lt hqx (fun h => htu (by rw [← ty, ← h]; exact hU.2.2 k q hk2)))
  have hT1 : Tw X ow t (ws.set p0 (y, .inl (X.cI, N, .inl F))) H1 := by
    refine ⟨fun k q hk2 => ?_, hT.2.set hp⟩
    by_cases hkp : k = p0
    · subst hkp
      rw [List.getElem?_set_self (List.getElem?_eq_some_iff.mp hp).1] at hk2
      cases hk2
      exact hy1
    · rw [List.getElem?_set_ne (Ne.symm hkp)] at hk2
      exact (hT.1 k q hk2).kept (hk q.1 (hT.1 k q hk2).lt (fun h => htu (by rw [← tx, ← h]; exact (hT.2.2 k q hk2).symm)) (fun h => hkp (hT.2.1 k p0 q _ hk2 hp h)))
  exact mm_vret hF (hS1.wk (B := fun q => ow q = t ∨ ow q = u) (fun q h => h.elim (fun h => Or.inr (by rw [h]; exact tx)) (fun h => Or.inl (by rw [h]; exact ty)))) dX9_copyRow_14 ⟨rfl, hT1, hU1⟩
