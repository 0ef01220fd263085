theorem Inv.well {N : Nat} {k : Sk} (h : Inv N k) (hN : N ≤ 1000000) : Well k := by
  refine ⟨fun r hr => ⟨(h.2.2.2.2.2.2.1 r hr).2.2.2.1, ?_⟩, fun g hg => h.seen hg⟩
  obtain ⟨b, e1, e2, -⟩ := h.could hN hr
  rw [e1, e2]
theorem heS_cst {N : Nat} {k : Sk} (h : Inv N k) (r : Nat) : ∀ n, n ≤ k.2 2 → heS k r n = nI (cst (fun w => tn (cost k w)) (heldB k r) n) ∧ cst (fun w => tn (cost k w)) (heldB k r) n ≤ n * 1000 := by
  intro n
  induction n with
  | zero => intro _; exact ⟨rfl, Nat.le_refl 0⟩
  | succ n ih =>
    intro hn
    obtain ⟨i1, i2⟩ := ih (by omega)
    have hs : heS k r (n + 1) = heS k r n + (if heldB k r n = true then cost k n else 0) := rfl
    have hs2 : cst (fun w => tn (cost k w)) (heldB k r) (n + 1) = cst (fun w => tn (cost k w)) (heldB k r) n + (if heldB k r n then tn (cost k n) else 0) := rfl
    rw [hs, hs2, i1]
    by_cases hb : heldB k r n = true
    · obtain ⟨c1, c2⟩ := h.cost (w := n) (by omega) (by unfold heldB at hb; simp at hb; exact hb.2)
      rw [if_pos hb, if_pos hb, Nat.succ_mul, ← nI_add, ← c1]
      exact ⟨rfl, Nat.add_le_add i2 (Nat.le_of_lt c2)⟩
    · rw [if_neg hb, if_neg hb, Nat.add_zero]
      exact ⟨Int32.add_zero _, Nat.le_trans i2 (Nat.mul_le_mul_right 1000 (Nat.le_succ n))⟩
theorem ne_m4 {n : Nat} (h : n < 2 ^ 31) : ¬ nI n = -4 := fun h9 => by have := nI_pos h; rw [h9] at this; exact this (by decide)
theorem held_bc {k : Sk} (h : Ok k) (r : Nat) : roofV k r 3 = nI (cN (heldB k r) (k.2 2)) := by
  show bcI (nI (iN k (nI r) (k.2 2))) = _
  rw [iN_mk, tb_bc _ (mkN_8 _ h.2.2.1), ← cN_8 (heldB k r) h.2.2.1]
  congr 1
  exact cN_ext 8 (fun j _ => mkN_tb _ _ j)
theorem Inv.RF {N : Nat} {k : Sk} (h : Inv N k) (hN : N ≤ 1000000) : RF k := by
  obtain ⟨hO, hc, hb, hcl, hsi, hex, hro, him⟩ := id h
  have hO1 := hO.1
  have hO2 := hO.2.1
  have hO3 := hO.2.2.1
  refine ⟨fun r hr => ?_, fun w hw => ?_, ?_, ?_, ?_⟩
  · obtain ⟨⟨c1, c2⟩, ⟨d1, d2⟩, ⟨s1, s2⟩, -, a, b, -, -, e1, e2, e3⟩ := hro r hr
    obtain ⟨bb, g1, g2, g3⟩ := h.could hN hr
    obtain ⟨x1, x2⟩ := heS_cst h r _ (Nat.le_refl _)
    have hle := best_le g3
    have hcn := cN_le (heldB k r) (k.2 2)
    have hx3 : k.2 2 * 1000 ≤ 8 * 1000 := Nat.mul_le_mul_right 1000 hO3
    refine ⟨held_bc hO r, ⟨_, c1, tn_lt _⟩, ⟨_, d1, tn_lt _⟩, ⟨_, s1, tn_lt _⟩, by rw [e1, e2]; exact e3, by rw [g1]; exact nI_le hle (by omega), ?_⟩
    rw [g1, x1, c1, nI_eq (by omega) (by omega), nI_leI (by omega) (tn_lt _), best_all g3]
  · rcases him w hw with h9 | ⟨h9, h10⟩
    · exact Or.inl h9
    · rw [h9]
      exact Or.inr ⟨nI_pos' (by omega), nI_lt (b := 3) h10 (by decide)⟩
  · have := own_sum (F := k.1 14) (p := fun _ => true) (m := k.2 1) (n := k.2 2) (by omega) (fun w hw _ => ⟨wR k w, (hO.2.2.2.2.1 w hw).2, (hO.2.2.2.2.1 w hw).1⟩)
    rw [cN_all (k.2 2) (fun _ _ => rfl)] at this
    have e : suN (fun r => cN (ownB k r) (k.2 2)) (k.2 1) = suN (fun r => cN (fun w => decide (k.1 14 w = nI r) && true) (k.2 2)) (k.2 1) := suN_ext _ (fun r _ => cN_ext _ (fun w _ => (Bool.and_true _).symm))
    rw [e, this]
  · have := own_sum (F := k.1 14) (p := fun w => isImp k w) (m := k.2 1) (n := k.2 2) (by omega) (fun w hw _ => ⟨wR k w, (hO.2.2.2.2.1 w hw).2, (hO.2.2.2.2.1 w hw).1⟩)
    show nI (suN (fun r => cN (fun w => decide (k.1 14 w = nI r) && isImp k w) (k.2 2)) (k.2 1)) = _
    rw [this]
    exact cN_not (fun z => decide (k.1 18 z = -4)) (k.2 2)
  · have := own_sum (F := k.1 2) (p := fun w => !decide (k.1 2 w = -4)) (m := k.2 1) (n := k.2 0) (by omega) (fun w hw hp => ⟨tn (k.1 2 w), ((hcl w hw).resolve_left (fun h9 => by simp [h9] at hp)).2, ((hcl w hw).resolve_left (fun h9 => by simp [h9] at hp)).1⟩)
    rw [show suN (fun r => cN (fun z => decide (k.1 2 z = nI r)) (k.2 0)) (k.2 1) = suN (fun r => cN (fun w => decide (k.1 2 w = nI r) && !decide (k.1 2 w = -4)) (k.2 0)) (k.2 1) from suN_ext _ (fun r hr => cN_ext _ (fun w _ => by
      by_cases h9 : k.1 2 w = nI r
      · have h10 : ¬ k.1 2 w = -4 := by rw [h9]; exact ne_m4 (by omega)
        simp [h9, h10]
        exact fun h => h10 (h9.trans h)
      · simp [h9])), this]
    exact cN_not (fun z => decide (k.1 2 z = -4)) (k.2 0)
