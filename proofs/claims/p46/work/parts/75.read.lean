/-! a text that is read -/
theorem runL_inv (L : List Pc) : ∀ (N n : Nat) (k : Sk) (E : Nat → Int32), Inv N k → N + L.length ≤ 1000000 → Inv (N + L.length) (runL L n k E).2.1 := by
  induction L with
  | nil => intro N n k E h hN; exact h
  | cons x r ih =>
    intro N n k E h hN
    have hl : (x :: r).length = r.length + 1 := rfl
    have h1 := Inv_oCmd h (by omega) E x.2.1 x.2.2.2.1 x.2.2.2.2.1 x.2.2.2.2.2
    unfold runL
    split
    · exact h1.mono (by omega)
    · have := ih (N + 1) (n + 1) _ (pE E (oCmd k E x.2.1 x.2.2.2.1 x.2.2.2.2.1 x.2.2.2.2.2).2.2) h1 (by omega)
      rw [show N + (x :: r).length = N + 1 + r.length by omega]
      exact this
theorem runL_some (L : List Pc) : ∀ (N n : Nat) (k : Sk) (E : Nat → Int32), Inv N k → N + L.length ≤ 1000000 → ∀ c, (runL L n k E).1 = some c → c.1 = -1 ∨ c.1 = -2 ∨ c.1 = -3 ∧ 0 < (runL L n k E).2.2 0 := by
  induction L with
  | nil => intro N n k E h hN c hc; cases hc
  | cons x r ih =>
    intro N n k E h hN c
    have hl : (x :: r).length = r.length + 1 := rfl
    have h1 := Inv_oCmd h (by omega) E x.2.1 x.2.2.2.1 x.2.2.2.2.1 x.2.2.2.2.2
    have h2 := oCmd_ret h (by omega) E x.2.1 x.2.2.2.1 x.2.2.2.2.1 x.2.2.2.2.2
    unfold runL
    split
    next hneg =>
      intro hc
      cases hc
      rcases h2 with ⟨h3, -⟩ | h3
      · exact h3
      · exact absurd hneg h3
    next hpos => exact ih (N + 1) (n + 1) _ _ h1 (by omega) c
theorem Okp_in {σ : Sb} (h : Okp σ) (n : Nat) (co : Nat → Nat) : Okp (sbIn σ n co) := h
theorem sbIn_0 {σ : Sb} (h : σ.2.2.2.1 3 = 0) : sbIn σ 0 σ.2.2.2.2.2 = σ := by
  have e : (fun j => if j = 3 then 0 else σ.2.2.2.1 j) = σ.2.2.2.1 := by
    funext j
    by_cases hj : j = 3
    · rw [if_pos hj, hj, h]
    · rw [if_neg hj]
  unfold sbIn
  rw [e]
theorem sbIn_2 (σ : Sb) (m n : Nat) (c d : Nat → Nat) : sbIn (sbIn σ m c) n d = sbIn σ n d := by
  have e : (fun j => if j = 3 then n else (if j = 3 then m else σ.2.2.2.1 j)) = fun j => if j = 3 then n else σ.2.2.2.1 j := by
    funext j
    by_cases hj : j = 3
    · rw [if_pos hj, if_pos hj]
    · rw [if_neg hj, if_neg hj, if_neg hj]
  show (_, _, _, (fun j => if j = 3 then n else (if j = 3 then m else σ.2.2.2.1 j)), _, _) = _
  rw [e]
  rfl
/-- what a text that is read leaves -/
theorem read_f {N : Nat} {σ : Sb} (h : GI N σ) {L : List Pc} (hL : L.length ≤ 4) (hN : N + 4 ≤ 1000000) (n : Nat) (co : Nat → Nat) (τ : Sb) (a : Int32) (ha : a = (cinR (sbIn σ n co) L).1) (hτ : τ = sbIn (cinR (sbIn σ n co) L).2 0 ((cinR (sbIn σ n co) L).2.2.2.2.2.2)) :
    GI (N + 4) τ ∧ τ.2.1 = σ.2.1 ∧ τ.2.2.2.1 2 = σ.2.2.2.1 2 ∧ ((a = -3 ∧ τ.1 = σ.1 ∧ (τ.2.2.2.2.1 0 = 13 ∧ 0 < τ.2.2.2.2.1 2 ∨ τ.2.2.2.2.1 0 = 14 ∧ τ.2.2.2.2.1 2 = -4)) ∨ (¬ a < 0 ∧ 0 < τ.2.2.2.1 0 ∧ (sbBack τ).1 = σ.1)) := by
  obtain ⟨h1, h2, h3, h4, h5, h6, h7⟩ := h
  have hp1 := h5.1
  have hp2 := h5.2
  have hI := (runL_inv L N 0 σ.1 σ.2.2.2.2.1 h2 (by omega)).mono (N := N + 4) (by omega)
  have hS := runL_some L N 0 σ.1 σ.2.2.2.2.1 h2 (by omega)
  have hm := fun n => (h4 n).mono (Nat.le_add_right N 4)
  have h9 : ∀ m, Inv (N + 4) (if m = σ.2.2.2.1 1 then σ.1 else σ.2.2.1 m) := fun m => by split; exact h2.mono (Nat.le_add_right N 4); exact hm m
  have eC : cinR (sbIn σ n co) L = match runL L 0 σ.1 σ.2.2.2.2.1 with
    | (none, k, E) => (nI L.length, sbKeep (tauS (sbIn σ n co) k E))
    | (some c, k, E) => (-3, tauS (sbIn σ n co) σ.1 (pE E (ofR E c.1 (nI c.2)))) := rfl
  cases hr : runL L 0 σ.1 σ.2.2.2.2.1 with
  | mk o kE =>
    obtain ⟨k, E⟩ := kE
    rw [hr] at hI hS eC
    cases o with
    | none =>
      have eC : cinR (sbIn σ n co) L = (nI L.length, sbKeep (tauS (sbIn σ n co) k E)) := eC
      rw [eC] at ha hτ
      have e0 : τ.2.2.2.1 0 = if 8 < σ.2.2.2.1 0 + 1 then 8 else σ.2.2.2.1 0 + 1 := by rw [hτ]; rfl
      have e1 : τ.2.2.2.1 1 = (σ.2.2.2.1 1 + 1) % 9 := by rw [hτ]; rfl
      have e2 : ∀ m, τ.2.2.1 m = if m = σ.2.2.2.1 1 then σ.1 else σ.2.2.1 m := fun m => by rw [hτ]; rfl
      refine ⟨⟨by omega, by rw [hτ]; exact hI, by rw [hτ]; exact h3.mono (Nat.le_add_right N 4), fun m => by rw [e2]; exact h9 m, ⟨by rw [e0]; split <;> omega, by rw [e1]; exact Nat.mod_lt _ (by decide)⟩, by rw [hτ]; rfl, by rw [hτ]; exact h7⟩, by rw [hτ]; rfl, by rw [hτ]; rfl, Or.inr ⟨by rw [ha]; exact nI_pos (by omega), by rw [e0]; split <;> omega, ?_⟩⟩
      show τ.2.2.1 ((τ.2.2.2.1 1 + 9 - 1) % 9) = σ.1
      rw [e2, e1, if_pos (by omega)]
    | some c =>
      have eC : cinR (sbIn σ n co) L = (-3, tauS (sbIn σ n co) σ.1 (pE E (ofR E c.1 (nI c.2)))) := eC
      rw [eC] at ha hτ
      have eE : ∀ i, i < 4 → τ.2.2.2.2.1 i = ofR E c.1 (nI c.2) i := fun i hi => by rw [hτ]; exact if_pos hi
      refine ⟨⟨by omega, by rw [hτ]; exact h2.mono (Nat.le_add_right N 4), by rw [hτ]; exact h3.mono (Nat.le_add_right N 4), fun m => by rw [hτ]; exact h9 m, by rw [hτ]; exact h5, by rw [hτ]; rfl, by rw [hτ]; exact h7⟩, by rw [hτ]; rfl, by rw [hτ]; rfl, Or.inl ⟨ha, by rw [hτ]; rfl, ?_⟩⟩
      rw [eE 0 (by decide), eE 2 (by decide)]
      rcases hS c rfl with h8 | h8 | ⟨h8, h10⟩
      · right; unfold ofR; rw [if_neg (by rw [h8]; decide)]; exact ⟨rfl, rfl⟩
      · right; unfold ofR; rw [if_neg (by rw [h8]; decide)]; exact ⟨rfl, rfl⟩
      · left; unfold ofR; rw [if_pos h8]; exact ⟨rfl, h10⟩
theorem PL_len : ∀ j, j < 30 → (PL.getD j []).length ≤ 4 := by decide +kernel
/-- what an act leaves -/
theorem act_f {N : Nat} {σ τ : Sb} (h : GI N σ) (hN : N + 4 ≤ 1000000) {cd : Nat} {a b c : Int32} (hτ : τ = sbChg σ (oCmd σ.1 σ.2.2.2.2.1 cd a b c)) : GI (N + 4) τ ∧ ((oCmd σ.1 σ.2.2.2.2.1 cd a b c).1 = -1 ∨ (oCmd σ.1 σ.2.2.2.2.1 cd a b c).1 = -2 ∨ (oCmd σ.1 σ.2.2.2.2.1 cd a b c).1 = -3 → τ.1 = σ.1) := by
  refine ⟨by rw [hτ]; exact (h.chg (by omega) cd a b c).mono (by omega) (by omega), fun h2 => ?_⟩
  rw [hτ, chg_1.1]
  rcases oCmd_ret h.2.1 (by omega) σ.2.2.2.2.1 cd a b c with h3 | h3
  · exact h3.2
  · exact absurd (by rcases h2 with h2 | h2 | h2 <;> rw [h2] <;> decide) h3
theorem GI.in0 {N : Nat} {σ : Sb} (h : GI N σ) (e : Int32) (co : Nat → Nat) : GI N (sbIn (sbF σ e) 0 co) := ⟨h.1, h.2.1, h.2.2.1, h.2.2.2.1, h.2.2.2.2.1, rfl, h.2.2.2.2.2.2⟩
theorem GI.save {N : Nat} {σ : Sb} (h : GI N σ) : GI N (sbSave σ) := ⟨h.1, h.2.1, h.2.1, h.2.2.2.1, h.2.2.2.2.1, h.2.2.2.2.2.1, Or.inr rfl⟩
theorem GI.rest {N : Nat} {σ : Sb} (h : GI N σ) : GI N (sbRest σ) := ⟨h.1, h.2.2.1, h.2.2.1, h.2.2.2.1, ⟨Nat.zero_le 8, h.2.2.2.2.1.2⟩, h.2.2.2.2.2.1, h.2.2.2.2.2.2⟩
