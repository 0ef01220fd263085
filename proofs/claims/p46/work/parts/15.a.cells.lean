/-! a sky's cells with one of them changed -/
theorem skS_0 (X : Cx) (f : Nat → Nat) (k : Sk) (i : Nat) (v : Int32) : (skW X f k).set 4 (f 4, .inl (X.cI, 8, .inl (upd (k.1 0) i v))) = skW X f (sU k 0 i v) := rfl
theorem skS_1 (X : Cx) (f : Nat → Nat) (k : Sk) (i : Nat) (v : Int32) : (skW X f k).set 5 (f 5, .inl (X.cI, 8, .inl (upd (k.1 1) i v))) = skW X f (sU k 1 i v) := rfl
theorem skS_2 (X : Cx) (f : Nat → Nat) (k : Sk) (i : Nat) (v : Int32) : (skW X f k).set 6 (f 6, .inl (X.cI, 8, .inl (upd (k.1 2) i v))) = skW X f (sU k 2 i v) := rfl
theorem skS_3 (X : Cx) (f : Nat → Nat) (k : Sk) (i : Nat) (v : Int32) : (skW X f k).set 7 (f 7, .inl (X.cI, 8, .inl (upd (k.1 3) i v))) = skW X f (sU k 3 i v) := rfl
theorem skS_4 (X : Cx) (f : Nat → Nat) (k : Sk) (i : Nat) (v : Int32) : (skW X f k).set 8 (f 8, .inl (X.cI, 4, .inl (upd (k.1 4) i v))) = skW X f (sU k 4 i v) := rfl
theorem skS_5 (X : Cx) (f : Nat → Nat) (k : Sk) (i : Nat) (v : Int32) : (skW X f k).set 9 (f 9, .inl (X.cI, 5, .inl (upd (k.1 5) i v))) = skW X f (sU k 5 i v) := rfl
theorem skS_6 (X : Cx) (f : Nat → Nat) (k : Sk) (i : Nat) (v : Int32) : (skW X f k).set 10 (f 10, .inl (X.cI, 5, .inl (upd (k.1 6) i v))) = skW X f (sU k 6 i v) := rfl
theorem skS_7 (X : Cx) (f : Nat → Nat) (k : Sk) (i : Nat) (v : Int32) : (skW X f k).set 11 (f 11, .inl (X.cI, 5, .inl (upd (k.1 7) i v))) = skW X f (sU k 7 i v) := rfl
theorem skS_8 (X : Cx) (f : Nat → Nat) (k : Sk) (i : Nat) (v : Int32) : (skW X f k).set 12 (f 12, .inl (X.cI, 5, .inl (upd (k.1 8) i v))) = skW X f (sU k 8 i v) := rfl
theorem skS_9 (X : Cx) (f : Nat → Nat) (k : Sk) (i : Nat) (v : Int32) : (skW X f k).set 13 (f 13, .inl (X.cI, 5, .inl (upd (k.1 9) i v))) = skW X f (sU k 9 i v) := rfl
theorem skS_10 (X : Cx) (f : Nat → Nat) (k : Sk) (i : Nat) (v : Int32) : (skW X f k).set 14 (f 14, .inl (X.cI, 5, .inl (upd (k.1 10) i v))) = skW X f (sU k 10 i v) := rfl
theorem skS_11 (X : Cx) (f : Nat → Nat) (k : Sk) (i : Nat) (v : Int32) : (skW X f k).set 15 (f 15, .inl (X.cI, 5, .inl (upd (k.1 11) i v))) = skW X f (sU k 11 i v) := rfl
theorem skS_12 (X : Cx) (f : Nat → Nat) (k : Sk) (i : Nat) (v : Int32) : (skW X f k).set 16 (f 16, .inl (X.cI, 5, .inl (upd (k.1 12) i v))) = skW X f (sU k 12 i v) := rfl
theorem skS_13 (X : Cx) (f : Nat → Nat) (k : Sk) (i : Nat) (v : Int32) : (skW X f k).set 17 (f 17, .inl (X.cI, 5, .inl (upd (k.1 13) i v))) = skW X f (sU k 13 i v) := rfl
theorem skS_14 (X : Cx) (f : Nat → Nat) (k : Sk) (i : Nat) (v : Int32) : (skW X f k).set 18 (f 18, .inl (X.cI, 8, .inl (upd (k.1 14) i v))) = skW X f (sU k 14 i v) := rfl
theorem skS_15 (X : Cx) (f : Nat → Nat) (k : Sk) (i : Nat) (v : Int32) : (skW X f k).set 19 (f 19, .inl (X.cI, 8, .inl (upd (k.1 15) i v))) = skW X f (sU k 15 i v) := rfl
theorem skS_16 (X : Cx) (f : Nat → Nat) (k : Sk) (i : Nat) (v : Int32) : (skW X f k).set 20 (f 20, .inl (X.cI, 8, .inl (upd (k.1 16) i v))) = skW X f (sU k 16 i v) := rfl
theorem skS_17 (X : Cx) (f : Nat → Nat) (k : Sk) (i : Nat) (v : Int32) : (skW X f k).set 21 (f 21, .inl (X.cI, 8, .inl (upd (k.1 17) i v))) = skW X f (sU k 17 i v) := rfl
theorem skS_18 (X : Cx) (f : Nat → Nat) (k : Sk) (i : Nat) (v : Int32) : (skW X f k).set 22 (f 22, .inl (X.cI, 8, .inl (upd (k.1 18) i v))) = skW X f (sU k 18 i v) := rfl
theorem skC_0 (X : Cx) (f : Nat → Nat) (k : Sk) (n : Nat) : (skW X f k).set 1 (f 1, .inr (5, [.int (nI n), .ref (f 4), .ref (f 5), .ref (f 6), .ref (f 7), .ref (f 8)])) = skW X f (sC k 0 n) := rfl
theorem skC_1 (X : Cx) (f : Nat → Nat) (k : Sk) (n : Nat) : (skW X f k).set 2 (f 2, .inr (3, [.int (nI n), .ref (f 9), .ref (f 10), .ref (f 11), .ref (f 12), .ref (f 13), .ref (f 14), .ref (f 15), .ref (f 16), .ref (f 17)])) = skW X f (sC k 1 n) := rfl
theorem skC_2 (X : Cx) (f : Nat → Nat) (k : Sk) (n : Nat) : (skW X f k).set 3 (f 3, .inr (6, [.int (nI n), .ref (f 18), .ref (f 19), .ref (f 20), .ref (f 21), .ref (f 22)])) = skW X f (sC k 2 n) := rfl
theorem skN_0 (X : Cx) (f : Nat → Nat) (k : Sk) (v : Int32) : (skW X f k).set 0 (f 0, .inr (4, [.ref (f 1), .ref (f 2), .ref (f 3), .int v, .int (k.1 19 1)])) = skW X f (sU k 19 0 v) := rfl
theorem skN_1 (X : Cx) (f : Nat → Nat) (k : Sk) (v : Int32) : (skW X f k).set 0 (f 0, .inr (4, [.ref (f 1), .ref (f 2), .ref (f 3), .int (k.1 19 0), .int v])) = skW X f (sU k 19 1 v) := rfl
theorem Tw.to {X : Cx} {ow : Nat → Nat} {t : Nat} {ws ws1 : va_W} {H : Heap} (h : Tw X ow t ws H) (e : ws = ws1) : Tw X ow t ws1 H := e ▸ h
theorem stD_2 (k : Sk) (w : Nat) : (stD k w).2.2 = k.2 := by
  unfold stD; split; rfl; split; (split; rfl; rfl); rfl
theorem Ok_stD {k : Sk} (h : Ok k) (w : Nat) : Ok (stD k w).2 := by
  unfold stD
  split
  · exact Ok_sU _ _ (by decide) h
  · split
    · split
      · exact Ok_sU _ _ (by decide) h
      · exact Ok_sU _ _ (by decide) (Ok_sU _ _ (by decide) h)
    · exact Ok_sU _ _ (by decide) h
theorem Ok_mvW {k : Sk} (h : Ok k) {i : Nat} (hi : i < k.2 2) (j : Nat) : Ok (mvW k i j) := by
  obtain ⟨h1, h2, h3, h4, h5, h6⟩ := h
  refine ⟨h1, h2, h3, h4, fun z hz => ?_, fun z hz => ?_⟩
  · have e : (mvW k i j).1 14 z = if z = j then k.1 14 i else k.1 14 z := rfl
    have a := h5 i hi
    have b := h5 z hz
    unfold wR at a b ⊢
    rw [e]
    split
    · exact a
    · exact b
  · have e : (mvW k i j).1 15 z = if z = j then k.1 15 i else k.1 15 z := rfl
    have a := h6 i hi
    have b := h6 z hz
    unfold wS at a b ⊢
    rw [e]
    split
    · exact a
    · exact b
theorem dN_2 (k : Sk) (j : Nat) : (dN k j).1.2 = k.2 := by
  induction j with
  | zero => rfl
  | succ j ih =>
    unfold dN
    split
    · exact (stD_2 _ _).trans ih
    · exact (stD_2 _ _).trans ih
theorem dN_le (k : Sk) (j : Nat) : (dN k j).2 ≤ j := by
  induction j with
  | zero => exact Nat.le_refl 0
  | succ j ih =>
    unfold dN
    split
    · exact Nat.succ_le_succ ih
    · exact Nat.le_succ_of_le ih
theorem Ok_dN {k : Sk} (h : Ok k) (j : Nat) (hj : j ≤ k.2 2) : Ok (dN k j).1 := by
  induction j with
  | zero => exact h
  | succ j ih =>
    have i1 := ih (by omega)
    unfold dN
    split
    · refine Ok_mvW (Ok_stD i1 j) ?_ _
      rw [stD_2, dN_2]
      omega
    · exact Ok_stD i1 j
theorem Ok_sC2 {k : Sk} (h : Ok k) {n : Nat} (hn : n ≤ k.2 2) : Ok (sC k 2 n) := by
  obtain ⟨h1, h2, h3, h4, h5, h6⟩ := h
  have e : (sC k 2 n).2 2 = n := rfl
  refine ⟨h1, h2, by rw [e]; omega, h4, fun z hz => ?_, fun z hz => ?_⟩
  · rw [e] at hz
    exact h5 z (by omega)
  · rw [e] at hz
    exact h6 z (by omega)
theorem skT (X : Cx) (f : Nat → Nat) {k q : Sk} (h1 : ∀ r, r < 19 → k.1 r = q.1 r) (b9 : k.1 19 0 = q.1 19 0) (c9 : k.1 19 1 = q.1 19 1) (h2 : ∀ i, i < 3 → k.2 i = q.2 i) : skW X f k = skW X f q := by
  have a0 := h1 0 (by decide); have a1 := h1 1 (by decide); have a2 := h1 2 (by decide); have a3 := h1 3 (by decide); have a4 := h1 4 (by decide); have a5 := h1 5 (by decide); have a6 := h1 6 (by decide); have a7 := h1 7 (by decide); have a8 := h1 8 (by decide); have a9 := h1 9 (by decide)
  have b0 := h1 10 (by decide); have b1 := h1 11 (by decide); have b2 := h1 12 (by decide); have b3 := h1 13 (by decide); have b4 := h1 14 (by decide); have b5 := h1 15 (by decide); have b6 := h1 16 (by decide); have b7 := h1 17 (by decide); have b8 := h1 18 (by decide)
  have d0 := h2 0 (by decide); have d1 := h2 1 (by decide); have d2 := h2 2 (by decide)
  unfold skW
  rw [a0, a1, a2, a3, a4, a5, a6, a7, a8, a9, b0, b1, b2, b3, b4, b5, b6, b7, b8, b9, c9, d0, d1, d2]
theorem skR_0 (X : Cx) (f : Nat → Nat) (k : Sk) (F : Nat → Int32) : (skW X f k).set 4 (f 4, .inl (X.cI, 8, .inl F)) = skW X f (sR k 0 F) := rfl
theorem skR_1 (X : Cx) (f : Nat → Nat) (k : Sk) (F : Nat → Int32) : (skW X f k).set 5 (f 5, .inl (X.cI, 8, .inl F)) = skW X f (sR k 1 F) := rfl
theorem skR_2 (X : Cx) (f : Nat → Nat) (k : Sk) (F : Nat → Int32) : (skW X f k).set 6 (f 6, .inl (X.cI, 8, .inl F)) = skW X f (sR k 2 F) := rfl
theorem skR_3 (X : Cx) (f : Nat → Nat) (k : Sk) (F : Nat → Int32) : (skW X f k).set 7 (f 7, .inl (X.cI, 8, .inl F)) = skW X f (sR k 3 F) := rfl
theorem skR_4 (X : Cx) (f : Nat → Nat) (k : Sk) (F : Nat → Int32) : (skW X f k).set 8 (f 8, .inl (X.cI, 4, .inl F)) = skW X f (sR k 4 F) := rfl
theorem skR_5 (X : Cx) (f : Nat → Nat) (k : Sk) (F : Nat → Int32) : (skW X f k).set 9 (f 9, .inl (X.cI, 5, .inl F)) = skW X f (sR k 5 F) := rfl
theorem skR_6 (X : Cx) (f : Nat → Nat) (k : Sk) (F : Nat → Int32) : (skW X f k).set 10 (f 10, .inl (X.cI, 5, .inl F)) = skW X f (sR k 6 F) := rfl
theorem skR_7 (X : Cx) (f : Nat → Nat) (k : Sk) (F : Nat → Int32) : (skW X f k).set 11 (f 11, .inl (X.cI, 5, .inl F)) = skW X f (sR k 7 F) := rfl
theorem skR_8 (X : Cx) (f : Nat → Nat) (k : Sk) (F : Nat → Int32) : (skW X f k).set 12 (f 12, .inl (X.cI, 5, .inl F)) = skW X f (sR k 8 F) := rfl
theorem skR_9 (X : Cx) (f : Nat → Nat) (k : Sk) (F : Nat → Int32) : (skW X f k).set 13 (f 13, .inl (X.cI, 5, .inl F)) = skW X f (sR k 9 F) := rfl
theorem skR_10 (X : Cx) (f : Nat → Nat) (k : Sk) (F : Nat → Int32) : (skW X f k).set 14 (f 14, .inl (X.cI, 5, .inl F)) = skW X f (sR k 10 F) := rfl
theorem skR_11 (X : Cx) (f : Nat → Nat) (k : Sk) (F : Nat → Int32) : (skW X f k).set 15 (f 15, .inl (X.cI, 5, .inl F)) = skW X f (sR k 11 F) := rfl
theorem skR_12 (X : Cx) (f : Nat → Nat) (k : Sk) (F : Nat → Int32) : (skW X f k).set 16 (f 16, .inl (X.cI, 5, .inl F)) = skW X f (sR k 12 F) := rfl
theorem skR_13 (X : Cx) (f : Nat → Nat) (k : Sk) (F : Nat → Int32) : (skW X f k).set 17 (f 17, .inl (X.cI, 5, .inl F)) = skW X f (sR k 13 F) := rfl
theorem skR_14 (X : Cx) (f : Nat → Nat) (k : Sk) (F : Nat → Int32) : (skW X f k).set 18 (f 18, .inl (X.cI, 8, .inl F)) = skW X f (sR k 14 F) := rfl
theorem skR_15 (X : Cx) (f : Nat → Nat) (k : Sk) (F : Nat → Int32) : (skW X f k).set 19 (f 19, .inl (X.cI, 8, .inl F)) = skW X f (sR k 15 F) := rfl
theorem skR_16 (X : Cx) (f : Nat → Nat) (k : Sk) (F : Nat → Int32) : (skW X f k).set 20 (f 20, .inl (X.cI, 8, .inl F)) = skW X f (sR k 16 F) := rfl
theorem skR_17 (X : Cx) (f : Nat → Nat) (k : Sk) (F : Nat → Int32) : (skW X f k).set 21 (f 21, .inl (X.cI, 8, .inl F)) = skW X f (sR k 17 F) := rfl
theorem skR_18 (X : Cx) (f : Nat → Nat) (k : Sk) (F : Nat → Int32) : (skW X f k).set 22 (f 22, .inl (X.cI, 8, .inl F)) = skW X f (sR k 18 F) := rfl
