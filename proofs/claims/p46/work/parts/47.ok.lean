/-! every command keeps the places within their rows -/
theorem Ok_oSimple {k : Sk} (hO : Ok k) (E : Nat → Int32) (a b : Int32) : Ok (oCloud k E a b).2.1 ∧ Ok (oClaim k E a b).2.1 ∧ Ok (oDrop k E a).2.1 ∧ Ok (oPay k E a b).2.1 ∧ Ok (oRedeem k E a).2.1 ∧ Ok (oStay k E a b).2.1 ∧ Ok (oPound k E a).2.1 := by
  refine ⟨?_, ?_, ?_, ?_, ?_, ?_, ?_⟩
  · unfold oCloud; (repeat' split) <;> first | exact hO | exact Ok_sU _ _ (by decide) hO
  · unfold oClaim; (repeat' split) <;> first | exact hO | exact Ok_sU _ _ (by decide) (Ok_sU _ _ (by decide) hO)
  · unfold oDrop; (repeat' split) <;> first | exact hO | exact Ok_sU _ _ (by decide) hO
  · unfold oPay; (repeat' split) <;> first | exact hO | exact Ok_sU _ _ (by decide) (Ok_sU _ _ (by decide) (Ok_sU _ _ (by decide) hO))
  · unfold oRedeem; (repeat' split) <;> first | exact hO | exact Ok_sU _ _ (by decide) (Ok_sU _ _ (by decide) hO)
  · unfold oStay; (repeat' split) <;> first | exact hO | exact Ok_sU _ _ (by decide) hO
  · unfold oPound; (repeat' split) <;> first | exact hO | exact Ok_iA hO _ _
theorem Ok_col4 {k : Sk} (hO : Ok k) (j : Nat) (lv : Int32) : Ok (col4 k j lv) := Ok_sU _ _ (by decide) (Ok_sU _ _ (by decide) (Ok_sU _ _ (by decide) (Ok_sU _ _ (by decide) hO)))
theorem Ok_colS {k : Sk} (hO : Ok k) (j : Nat) (lv cm : Int32) : Ok (colS k j lv cm) := by
  unfold colS
  split
  · exact Ok_sU _ _ (by decide) (Ok_col4 hO _ _)
  · exact Ok_col4 hO _ _
theorem Ok_sgt1 {k : Sk} (hO : Ok k) (r x : Int32) : Ok (sgt1 k r x) := Ok_sU _ _ (by decide) (Ok_sU _ _ (by decide) hO)
theorem Ok_oSight {k : Sk} (hO : Ok k) (E : Nat → Int32) (r x : Int32) : Ok (oSight k E r x).2.1 := by
  unfold oSight
  (repeat' split) <;> first | exact hO | exact Ok_colS (Ok_sU _ _ (by decide) (Ok_sgt1 hO _ _)) _ _ _ | exact Ok_sU _ _ (by decide) (Ok_sgt1 hO _ _)
theorem Ok_oDawn {k : Sk} (hO : Ok k) : Ok (oDawn k).2 := by
  have h := Ok_dN hO (k.2 2) (Nat.le_refl _)
  have h2 : Ok (sC (dN k (k.2 2)).1 2 (dN k (k.2 2)).2) := Ok_sC2 h (by rw [dN_2]; exact dN_le k (k.2 2))
  exact Ok_sU _ _ (by decide) (Ok_bN (Ok_tC h2 4) _)
theorem cnt_lt {n B : Nat} (hn : n ≤ 100) (hB : B ≤ 100) (h : nI n < nI B) : n < B := (nI_ltI (by omega) (by omega)).mp h
theorem addS_1 (k : Sk) (b s : Int32) (r i : Nat) (hr : r ≠ 0 ∧ r ≠ 1 ∧ r ≠ 2 ∧ r ≠ 3) : (addS k b s).1 r i = k.1 r i := by simp [addS, sC, sU, hr]
theorem Ok_addS {k : Sk} (hO : Ok k) {b s : Int32} (hs : winB s 0 3 = true) (hn : k.2 0 < 8) : Ok (addS k b s) := by
  obtain ⟨h1, h2, h3, h4, h5, h6⟩ := hO
  have hw := winB_tn hs
  have e1 : ∀ i, (addS k b s).1 1 i = if i = k.2 0 then s else k.1 1 i := fun i => by simp [addS, sC, sU, upd]
  have c0 : (addS k b s).2 0 = k.2 0 + 1 := rfl
  have c1 : (addS k b s).2 1 = k.2 1 := rfl
  have c2 : (addS k b s).2 2 = k.2 2 := rfl
  refine ⟨by rw [c0]; omega, by rw [c1]; exact h2, by rw [c2]; exact h3, fun i hi => ?_, fun w hw' => ?_, fun w hw' => ?_⟩
  · rw [c0] at hi
    unfold sN
    rw [e1]
    by_cases e : i = k.2 0
    · rw [if_pos e]; exact hw
    · rw [if_neg e]; exact h4 i (by omega)
  · rw [c2] at hw'
    unfold wR
    rw [addS_1 k b s 14 w (by decide), c1]
    exact h5 w hw'
  · rw [c2] at hw'
    unfold wS
    rw [addS_1 k b s 15 w (by decide), c0]
    have := h6 w hw'
    exact ⟨this.1, Nat.lt_succ_of_lt this.2⟩
theorem Ok_oStar {k : Sk} (hO : Ok k) (E : Nat → Int32) (b s : Int32) : Ok (oStar k E b s).2.1 := by
  have h8 := hO.1
  unfold oStar
  split
  · next hs =>
    split
    · split
      · next hn => exact Ok_addS hO hs (cnt_lt (B := 8) (by omega) (by decide) hn)
      · exact hO
    · exact hO
  · exact hO
theorem addR_1 (k : Sk) (c : Int32) (r i : Nat) (hr : r = 1 ∨ r = 14 ∨ r = 15) : (addR k c).1 r i = k.1 r i := by rcases hr with rfl | rfl | rfl <;> simp [addR, sC, sU]
theorem Ok_addR {k : Sk} (hO : Ok k) (c : Int32) (hn : k.2 1 < 5) : Ok (addR k c) := by
  obtain ⟨h1, h2, h3, h4, h5, h6⟩ := hO
  have c0 : (addR k c).2 0 = k.2 0 := rfl
  have c1 : (addR k c).2 1 = k.2 1 + 1 := rfl
  have c2 : (addR k c).2 2 = k.2 2 := rfl
  refine ⟨by rw [c0]; exact h1, by rw [c1]; omega, by rw [c2]; exact h3, fun i hi => ?_, fun w hw' => ?_, fun w hw' => ?_⟩
  · rw [c0] at hi; unfold sN; rw [addR_1 k c 1 i (by decide)]; exact h4 i hi
  · rw [c2] at hw'; unfold wR; rw [addR_1 k c 14 w (by decide), c1]
    have := h5 w hw'
    exact ⟨this.1, Nat.lt_succ_of_lt this.2⟩
  · rw [c2] at hw'; unfold wS; rw [addR_1 k c 15 w (by decide), c0]; exact h6 w hw'
theorem Ok_oRoof {k : Sk} (hO : Ok k) (E : Nat → Int32) (c : Int32) : Ok (oRoof k E c).2.1 := by
  have h8 := hO.2.1
  unfold oRoof
  split
  · split
    · next hn => exact Ok_addR hO c (cnt_lt (B := 5) (by omega) (by decide) hn)
    · exact hO
  · exact hO
theorem Ok_addW {k : Sk} (hO : Ok k) {r x d : Int32} (hr : hasB (k.2 1) r = true) (hx : hasB (k.2 0) x = true) (hn : k.2 2 < 8) : Ok (addW k r x d) := by
  obtain ⟨h1, h2, h3, h4, h5, h6⟩ := hO
  have hr' := hasB_tn hr (by omega)
  have hx' := hasB_tn hx (by omega)
  have e1 : ∀ i, (addW k r x d).1 1 i = k.1 1 i := fun i => by simp [addW, sC, sU]
  have e14 : ∀ i, (addW k r x d).1 14 i = if i = k.2 2 then r else k.1 14 i := fun i => by simp [addW, sC, sU, upd]
  have e15 : ∀ i, (addW k r x d).1 15 i = if i = k.2 2 then x else k.1 15 i := fun i => by simp [addW, sC, sU, upd]
  have c0 : (addW k r x d).2 0 = k.2 0 := rfl
  have c1 : (addW k r x d).2 1 = k.2 1 := rfl
  have c2 : (addW k r x d).2 2 = k.2 2 + 1 := rfl
  refine ⟨by rw [c0]; exact h1, by rw [c1]; exact h2, by rw [c2]; omega, fun i hi => ?_, fun w hw' => ?_, fun w hw' => ?_⟩
  · rw [c0] at hi; unfold sN; rw [e1]; exact h4 i hi
  · rw [c2] at hw'; unfold wR; rw [e14, c1]
    by_cases e : w = k.2 2
    · rw [if_pos e]; exact hr'
    · rw [if_neg e]; exact h5 w (by omega)
  · rw [c2] at hw'; unfold wS; rw [e15, c0]
    by_cases e : w = k.2 2
    · rw [if_pos e]; exact hx'
    · rw [if_neg e]; exact h6 w (by omega)
theorem Ok_oWish {k : Sk} (hO : Ok k) (E : Nat → Int32) (r x d : Int32) : Ok (oWish k E r x d).2.1 := by
  have h8 := hO.2.2.1
  unfold oWish
  split
  · next h =>
    have hb := Bool.and_eq_true_iff.mp h
    split
    · split
      · exact hO
      · split
        · next hn => exact Ok_addW hO hb.1 hb.2 (cnt_lt (B := 8) (by omega) (by decide) hn)
        · exact hO
    · exact hO
  · exact hO
theorem Ok_oCmd (k : Sk) (E : Nat → Int32) (cd : Nat) (a b c : Int32) (hO : Ok k) : Ok (oCmd k E cd a b c).2.1 := by
  have h := Ok_oSimple hO E a b
  unfold oCmd
  split
  · exact Ok_oStar hO E a b
  · exact Ok_oRoof hO E a
  · exact h.1
  · exact Ok_oSight hO E a b
  · exact h.2.1
  · exact h.2.2.1
  · exact Ok_oWish hO E a b c
  · exact h.2.2.2.1
  · exact h.2.2.2.2.2.2
  · exact h.2.2.2.2.1
  · exact h.2.2.2.2.2.1
  · exact Ok_oDawn hO
