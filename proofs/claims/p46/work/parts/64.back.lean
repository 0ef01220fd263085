/-! the whole object, changed and taken back -/
theorem GI.chg {N : Nat} {σ : Sb} (h : GI N σ) (hN : N + 1 ≤ 1000000) (cd : Nat) (a b c : Int32) : GI (N + 1) (sbChg σ (oCmd σ.1 σ.2.2.2.2.1 cd a b c)) := by
  obtain ⟨h1, h2, h3, h4, h5, h6⟩ := h
  have hI := Inv_oCmd h2 hN σ.2.2.2.2.1 cd a b c
  generalize oCmd σ.1 σ.2.2.2.2.1 cd a b c = R at hI ⊢
  have hm := fun n => (h4 n).mono (Nat.le_succ N)
  have h9 : ∀ n, Inv (N + 1) (if n = σ.2.2.2.1 1 then σ.1 else σ.2.2.1 n) := fun n => by split; exact h2.mono (Nat.le_succ N); exact hm n
  unfold sbChg
  split
  · exact ⟨hN, hI, h3.mono (Nat.le_succ N), h9, h5, h6⟩
  · refine ⟨hN, hI, h3.mono (Nat.le_succ N), h9, ?_, h6⟩
    unfold sbKeep sbN Okp
    refine ⟨?_, Nat.mod_lt _ (by decide)⟩
    show (if 8 < _ then 8 else _) ≤ 8
    split <;> omega
theorem chg_neg {σ : Sb} {R : R3} (h : R.1 < 0) (hs : R.2.1 = σ.1) : (sbChg σ R).1 = σ.1 ∧ (sbChg σ R).2.1 = σ.2.1 ∧ (sbChg σ R).2.2.2.1 2 = σ.2.2.2.1 2 := by
  unfold sbChg
  rw [if_pos h]
  exact ⟨hs, rfl, rfl⟩
theorem chg_1 {σ : Sb} {R : R3} : (sbChg σ R).1 = R.2.1 ∧ (sbChg σ R).2.1 = σ.2.1 ∧ (sbChg σ R).2.2.2.1 2 = σ.2.2.2.1 2 := by
  unfold sbChg
  split <;> exact ⟨rfl, rfl, rfl⟩
theorem chg_E {σ : Sb} {R : R3} {i : Nat} (hi : i < 4) : (sbChg σ R).2.2.2.2.1 i = R.2.2 i := by
  unfold sbChg
  split <;> exact if_pos hi
/-- a change that was carried out can be taken back -/
theorem chg_back {σ : Sb} {R : R3} (hP : Okp σ) (h : ¬ R.1 < 0) : 0 < (sbChg σ R).2.2.2.1 0 ∧ (sbBack (sbChg σ R)).1 = σ.1 ∧ ((sbChg σ R).2.2.2.1 1 + 9 - 1) % 9 = σ.2.2.2.1 1 ∧ (sbChg σ R).2.2.1 (σ.2.2.2.1 1) = σ.1 ∧ (sbChg σ R).2.2.2.1 0 = (if 8 < σ.2.2.2.1 0 + 1 then 8 else σ.2.2.2.1 0 + 1) ∧ ∀ n, n ≠ σ.2.2.2.1 1 → (sbChg σ R).2.2.1 n = σ.2.2.1 n := by
  have hp1 := hP.1
  have hp2 := hP.2
  have e : sbChg σ R = sbKeep (sbOp (sbNote σ) R) := if_neg h
  have e1 : (sbChg σ R).2.2.2.1 1 = (σ.2.2.2.1 1 + 1) % 9 := by rw [e]; rfl
  have e0 : (sbChg σ R).2.2.2.1 0 = if 8 < σ.2.2.2.1 0 + 1 then 8 else σ.2.2.2.1 0 + 1 := by rw [e]; rfl
  have e2 : ∀ n, (sbChg σ R).2.2.1 n = if n = σ.2.2.2.1 1 then σ.1 else σ.2.2.1 n := fun n => by rw [e]; rfl
  have e3 : ((sbChg σ R).2.2.2.1 1 + 9 - 1) % 9 = σ.2.2.2.1 1 := by rw [e1]; omega
  refine ⟨by rw [e0]; split <;> omega, ?_, e3, by rw [e2, if_pos rfl], e0, fun n hn => by rw [e2, if_neg hn]⟩
  show (sbChg σ R).2.2.1 (((sbChg σ R).2.2.2.1 1 + 9 - 1) % 9) = σ.1
  rw [e3, e2, if_pos rfl]
theorem GI.back {N : Nat} {σ : Sb} (h : GI N σ) : GI N (sbBack σ) ∧ (sbBack σ).2.1 = σ.2.1 ∧ (sbBack σ).2.2.2.1 2 = σ.2.2.2.1 2 := by
  obtain ⟨h1, h2, h3, h4, h5, h6⟩ := h
  refine ⟨⟨h1, h4 _, h3, h4, ⟨?_, Nat.mod_lt _ (by decide)⟩, h6⟩, rfl, rfl⟩
  have := h5.1
  show σ.2.2.2.1 0 - 1 ≤ 8
  omega
/-- two changes taken back -/
theorem chg_back2 {σ : Sb} {R R' : R3} (hP : Okp σ) (h : ¬ R.1 < 0) (hP' : Okp (sbChg σ R)) (h' : ¬ R'.1 < 0) : (sbBack (sbChg (sbChg σ R) R')).1 = (sbChg σ R).1 ∧ 0 < (sbChg (sbChg σ R) R').2.2.2.1 0 ∧ 0 < (sbBack (sbChg (sbChg σ R) R')).2.2.2.1 0 ∧ (sbBack (sbBack (sbChg (sbChg σ R) R'))).1 = σ.1 := by
  obtain ⟨a1, a2, a3, a4, a5, a6⟩ := chg_back hP h
  obtain ⟨b1, b2, b3, b4, b5, b6⟩ := chg_back hP' h'
  have hp1 := hP.1
  have hp2 := hP.2
  have e1 : (sbChg σ R).2.2.2.1 1 = (σ.2.2.2.1 1 + 1) % 9 := by rw [show sbChg σ R = _ from if_neg h]; rfl
  refine ⟨b2, b1, ?_, ?_⟩
  · show 0 < (sbChg (sbChg σ R) R').2.2.2.1 0 - 1
    rw [b5, a5]
    split <;> split <;> omega
  · show (sbChg (sbChg σ R) R').2.2.1 (((sbBack (sbChg (sbChg σ R) R')).2.2.2.1 1 + 9 - 1) % 9) = σ.1
    have e2 : (sbBack (sbChg (sbChg σ R) R')).2.2.2.1 1 = (sbChg σ R).2.2.2.1 1 := b3
    rw [e2, a3, b6 _ (by rw [e1]; omega), a4]
