/-! what holds of every sky that a run comes to, after at most N commands -/
def Inv (N : Nat) (k : Sk) : Prop :=
  Ok k ∧ Okc k ∧
  (∀ i, i < k.2 0 → k.1 0 i = nI (tn (k.1 0 i)) ∧ 1 ≤ tn (k.1 0 i) ∧ tn (k.1 0 i) ≤ 9) ∧
  (∀ i, i < k.2 0 → k.1 2 i = -4 ∨ (k.1 2 i = nI (tn (k.1 2 i)) ∧ tn (k.1 2 i) < k.2 1)) ∧
  (∀ i, i < k.2 0 → k.1 3 i = nI (tn (k.1 3 i)) ∧ tn (k.1 3 i) ≤ N) ∧
  (k.1 19 1 = nI (tn (k.1 19 1)) ∧ tn (k.1 19 1) ≤ suN (fun i => tn (k.1 3 i)) (k.2 0)) ∧
  (∀ r, r < k.2 1 → (k.1 5 r = nI (tn (k.1 5 r)) ∧ tn (k.1 5 r) ≤ 100 * N) ∧ (k.1 6 r = nI (tn (k.1 6 r)) ∧ tn (k.1 6 r) ≤ 100 * N) ∧ (k.1 7 r = nI (tn (k.1 7 r)) ∧ tn (k.1 7 r) ≤ 9) ∧ k.1 6 r = k.1 8 r - k.1 9 r ∧ ∃ a b, a < 256 ∧ b < 256 ∧ k.1 12 r = nI a ∧ k.1 13 r = nI b ∧ nI b &&& (nI a ^^^ (-1)) = 0) ∧
  (∀ w, w < k.2 2 → k.1 18 w = -4 ∨ (k.1 18 w = nI (tn (k.1 18 w)) ∧ tn (k.1 18 w) < 3))
/-- what holds of the whole object between two calls -/
def GI (N : Nat) (σ : Sb) : Prop := N ≤ 1000000 ∧ Inv N σ.1 ∧ Inv N σ.2.1 ∧ (∀ n, Inv N (σ.2.2.1 n)) ∧ Okp σ ∧ σ.2.2.2.1 3 = 0 ∧ (σ.2.2.2.1 2 = 0 ∨ σ.2.2.2.1 2 = 1)
theorem Inv.mono {M N : Nat} {k : Sk} (h : Inv M k) (hn : M ≤ N) : Inv N k := by
  obtain ⟨h1, h2, h3, h4, h5, h6, h7, h8⟩ := h
  refine ⟨h1, h2, h3, h4, fun i hi => ⟨(h5 i hi).1, Nat.le_trans (h5 i hi).2 hn⟩, h6, fun r hr => ?_, h8⟩
  obtain ⟨⟨a1, a2⟩, ⟨b1, b2⟩, c⟩ := h7 r hr
  exact ⟨⟨a1, by omega⟩, ⟨b1, by omega⟩, c⟩
theorem GI.mono {M N : Nat} {σ : Sb} (h : GI M σ) (hn : M ≤ N) (hN : N ≤ 1000000) : GI N σ :=
  ⟨hN, h.2.1.mono hn, h.2.2.1.mono hn, fun n => (h.2.2.2.1 n).mono hn, h.2.2.2.2⟩
theorem GI.O {N : Nat} {σ : Sb} (h : GI N σ) : Ok σ.1 := h.2.1.1
theorem GI.Oc {N : Nat} {σ : Sb} (h : GI N σ) : Okc σ.1 := h.2.1.2.1
theorem GI.P {N : Nat} {σ : Sb} (h : GI N σ) : Okp σ := h.2.2.2.2.1
/-- the first object -/
theorem GI_0 : GI 0 sb0 := by
  have h : Inv 0 k00 := ⟨⟨by decide, by decide, by decide, fun i hi => absurd hi (Nat.not_lt_zero i), fun i hi => absurd hi (Nat.not_lt_zero i), fun i hi => absurd hi (Nat.not_lt_zero i)⟩, fun g hg => ⟨rfl, Nat.zero_le 9⟩, fun i hi => absurd hi (Nat.not_lt_zero i), fun i hi => absurd hi (Nat.not_lt_zero i), fun i hi => absurd hi (Nat.not_lt_zero i), ⟨rfl, by decide⟩, fun i hi => absurd hi (Nat.not_lt_zero i), fun i hi => absurd hi (Nat.not_lt_zero i)⟩
  exact ⟨by decide, h, h, fun _ => h, ⟨by decide, by decide⟩, rfl, Or.inl rfl⟩
/-- as much as the law's parts leave: the same sky, the same saved one -/
def Nx (N : Nat) (σ τ : Sb) : Prop := GI N τ ∧ τ.1 = σ.1 ∧ τ.2.1 = σ.2.1 ∧ τ.2.2.2.1 2 = σ.2.2.2.1 2
theorem Nx.trans {M N : Nat} {σ τ ρ : Sb} (h1 : Nx M σ τ) (h2 : Nx N τ ρ) : Nx N σ ρ := ⟨h2.1, h2.2.1.trans h1.2.1, h2.2.2.1.trans h1.2.2.1, h2.2.2.2.trans h1.2.2.2⟩
