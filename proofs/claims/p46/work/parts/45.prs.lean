/-! the numbers that lay there don't change how a text is read -/
def Ag (k : Nat) (u v : Nat → Int32) : Prop := ∀ i, i < k → u i = v i
def pls : List Nat → Nat
  | [] => 0
  | s :: r => (if plB (nI s) = true then 1 else 0) + pls r
theorem Ag.up {k : Nat} {u v : Nat → Int32} (h : Ag k u v) (x : Int32) : Ag (k + 1) (upd u k x) (upd v k x) := by
  intro i hi
  by_cases e : i = k
  · subst e; simp [upd]
  · simp [upd, e]; exact h i (by omega)
theorem fwS_rel {t : List Nat} {s : Int32} {p k : Nat} {u v : Nat → Int32} (h : Ag k u v) (hk : plB s = true → k < 3) : (fwS t s p k u = none ∧ fwS t s p k v = none) ∨ ∃ a u1 v1, fwS t s p k u = some (a, k + (if plB s = true then 1 else 0), u1) ∧ fwS t s p k v = some (a, k + (if plB s = true then 1 else 0), v1) ∧ Ag (k + (if plB s = true then 1 else 0)) u1 v1 := by
  unfold fwS
  by_cases h1 : p < t.length
  · simp only [if_pos h1]
    by_cases h2 : ftB (tx t p) s = true
    · simp only [if_pos h2]
      by_cases h3 : plB s = true
      · simp only [if_pos h3, if_pos (hk h3)]
        refine Or.inr ?_
        by_cases h4 : s = 76
        · simp only [if_pos h4]; exact ⟨_, _, _, rfl, rfl, h.up _⟩
        · simp only [if_neg h4]
          by_cases h5 : s = 78
          · simp only [if_pos h5]
            by_cases h6 : p + 1 < t.length
            · simp only [if_pos h6]
              by_cases h7 : ftB (tx t (p + 1)) 68 = true
              · simp only [if_pos h7]
                refine ⟨_, _, _, rfl, rfl, ?_⟩
                intro i hi
                by_cases e : i = k
                · subst e; simp [upd]
                · simp [upd, e]; exact h i (by omega)
              · simp only [if_neg h7]; exact ⟨_, _, _, rfl, rfl, h.up _⟩
            · simp only [if_neg h6]; exact ⟨_, _, _, rfl, rfl, h.up _⟩
          · simp only [if_neg h5]; exact ⟨_, _, _, rfl, rfl, h.up _⟩
      · simp only [if_neg h3]
        exact Or.inr ⟨_, _, _, rfl, rfl, h⟩
    · simp only [if_neg h2]; exact Or.inl ⟨trivial, trivial⟩
  · simp only [if_neg h1]; exact Or.inl ⟨trivial, trivial⟩
theorem fw_rel {t : List Nat} : ∀ (r : List Nat) (p k : Nat) (u v : Nat → Int32), Ag k u v → k + pls r ≤ 3 → (fw t r p k u).1 = (fw t r p k v).1 ∧ (fw t r p k u).2.1 = (fw t r p k v).2.1 ∧ ((fw t r p k u).1 = true → Ag (k + pls r) (fw t r p k u).2.2 (fw t r p k v).2.2) := by
  intro r
  induction r with
  | nil => intro p k u v h _; exact ⟨rfl, rfl, fun _ => h⟩
  | cons s r ih =>
    intro p k u v h hk
    have hk' : k + ((if plB (nI s) = true then 1 else 0) + pls r) ≤ 3 := hk
    rcases fwS_rel (t := t) (s := nI s) (p := p) h (fun h3 => by rw [if_pos h3] at hk'; omega) with ⟨h1, h2⟩ | ⟨a, u1, v1, h1, h2, h3⟩
    · unfold fw
      rw [h1, h2]
      exact ⟨rfl, rfl, fun h => by cases h⟩
    · unfold fw
      rw [h1, h2]
      have := ih a _ u1 v1 h3 (by omega)
      refine ⟨this.1, this.2.1, fun h => ?_⟩
      have h9 := this.2.2 h
      rw [Nat.add_assoc] at h9
      exact h9
theorem Ag.zero (u v : Nat → Int32) : Ag 0 u v := fun i hi => absurd hi (Nat.not_lt_zero i)
theorem fc_rel {t : List Nat} {p : Nat} : ∀ (rs : List (List Nat)) (i : Nat) (e : Int32) (u v : Nat → Int32), (∀ r ∈ rs, pls r ≤ 3) → (fcR t p rs i e u).1 = (fcR t p rs i e v).1 ∧ (fcR t p rs i e u).2.1 = (fcR t p rs i e v).2.1 ∧ ∀ x, (fcR t p rs i e u).1 = some x → i ≤ x.1 ∧ Ag (pls (rs.getD (x.1 - i) [])) (fcR t p rs i e u).2.2 (fcR t p rs i e v).2.2 := by
  intro rs
  induction rs with
  | nil => intro i e u v _; exact ⟨rfl, rfl, fun x h => by cases h⟩
  | cons r rs ih =>
    intro i e u v hr
    have h1 := fw_rel (t := t) r p 0 u v (Ag.zero u v) (by have := hr r List.mem_cons_self; omega)
    have h2 := ih (i + 1) (fwE e (fw t r p 0 u)) (fw t r p 0 u).2.2 (fw t r p 0 v).2.2 (fun r' h => hr r' (List.mem_cons_of_mem _ h))
    have he : fwE e (fw t r p 0 v) = fwE e (fw t r p 0 u) := by unfold fwE; rw [h1.1, h1.2.1]
    unfold fcR
    by_cases hc : (fw t r p 0 u).1 = true
    · rw [if_pos hc, if_pos (h1.1.symm.trans hc), h1.2.1]
      refine ⟨rfl, rfl, fun x h => ?_⟩
      cases h
      have h9 := h1.2.2 hc
      rw [Nat.zero_add] at h9
      refine ⟨Nat.le_refl _, ?_⟩
      show Ag (pls ((r :: rs).getD (i - i) [])) _ _
      rw [Nat.sub_self]
      exact h9
    · rw [if_neg hc, if_neg (fun h => hc (h1.1.trans h)), he]
      refine ⟨h2.1, h2.2.1, fun x h => ?_⟩
      have h9 := h2.2.2 x h
      refine ⟨by omega, ?_⟩
      have e1 : x.1 - i = (x.1 - (i + 1)) + 1 := by omega
      rw [e1]
      exact h9.2
theorem pls_form : ∀ r ∈ formL, pls r ≤ 3 := by decide +kernel
theorem cc_rel {t : List Nat} : ∀ (k m p : Nat) (e e' : Int32) (u v : Nat → Int32), (ccR t k m p e u).1 = (ccR t k m p e' v).1 := by
  intro k
  induction k with
  | zero => intro m p e e' u v; rfl
  | succ k ih =>
    intro m p e e' u v
    have h := fc_rel (t := t) (p := p) formL 0 (nI p) u v pls_form
    unfold ccR
    rw [h.1]
    cases (fcR t p formL 0 (nI p) v).1 with
    | none => rfl
    | some x =>
      simp only []
      split
      · rfl
      · split
        · exact ih _ _ _ _ _ _
        · rfl
