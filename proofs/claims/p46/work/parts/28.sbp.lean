/-! the object's other parts changed -/
def sbN (σ : Sb) (i n : Nat) : Sb := (σ.1, σ.2.1, σ.2.2.1, (fun j => if j = i then n else σ.2.2.2.1 j), σ.2.2.2.2.1, σ.2.2.2.2.2)
/-- sky i is q (0: the sky, 1: what is saved, 2 + n: the past) -/
def sbS (σ : Sb) (i : Nat) (q : Sk) : Sb := (if i = 0 then q else σ.1, if i = 1 then q else σ.2.1, (fun n => if i = 2 + n then q else σ.2.2.1 n), σ.2.2.2)
theorem sbS_K (σ : Sb) (i : Nat) (q : Sk) (j : Nat) : sbK (sbS σ i q) j = if i = j then q else sbK σ j := by
  match j with
  | 0 => rfl
  | 1 => rfl
  | n + 2 =>
    show (if i = 2 + n then q else σ.2.2.1 n) = if i = n + 2 then q else σ.2.2.1 n
    rw [Nat.add_comm 2 n]
theorem SBP.sky {X : Cx} {cm : Nat → Nat} {o : Nat} {σ : Sb} {ow : Nat → Nat} {f : Nat → Nat → Nat} {g : Nat → Nat} {H H1 : Heap} (h : SBP X cm o σ ow f g H) {a b : Nat} {q : Sk} (ha : a < 11) (hb : b < 11) (hk : ∀ q : Nat, q < H.size → ¬ (ow q = a ∨ ow q = b) → H1[q]? = H[q]?) (h1 : Tw X ow a (skW X (f a) q) H1) (h2 : Tw X ow b (skW X (f b) (sbK σ b)) H1) : SBP X cm o (sbS σ a q) ow f g H1 := by
  obtain ⟨a1, a2, a3, a4, a5, ⟨c, e, nu, b1, b2⟩, a7, ⟨n, co, d1, d2⟩, a9⟩ := h
  have hk2 := fun (t : Nat) (ht : t ≠ a ∧ t ≠ b) => (fun q h9 (h8 : ow q = a ∨ ow q = b) => by omega : ∀ q, ow q = t → ¬ (fun q => ow q = a ∨ ow q = b) q)
  refine ⟨a1, a2.keep hk (hk2 20 (by omega)), fun i hi => ?_, a4.keep hk (hk2 21 (by omega)), a5.keep hk (hk2 22 (by omega)), ⟨c, e, nu, b1, b2.keep hk (hk2 23 (by omega))⟩, a7.keep hk (hk2 24 (by omega)), ⟨n, co, d1, d2.keep hk (hk2 25 (by omega))⟩, a9⟩
  rw [sbS_K]
  by_cases hia : a = i
  · rw [if_pos hia]; subst hia; exact h1
  · rw [if_neg hia]
    by_cases hib : b = i
    · subst hib; exact h2
    · exact (a3 i hi).keep hk (hk2 i (by omega))
theorem SBP.pa {X : Cx} {cm : Nat → Nat} {o : Nat} {σ σ' : Sb} {ow : Nat → Nat} {f : Nat → Nat → Nat} {g : Nat → Nat} {H H1 : Heap} (h : SBP X cm o σ ow f g H) (hk : ∀ q : Nat, q < H.size → ¬ (ow q = 21) → H1[q]? = H[q]?) (h21 : Tw X ow 21 (paW X f g σ') H1) (e1 : σ'.1 = σ.1) (e2 : σ'.2.1 = σ.2.1) (e3 : σ'.2.2.1 = σ.2.2.1) (e4 : σ'.2.2.2.1 2 = σ.2.2.2.1 2) (e5 : σ'.2.2.2.1 3 = σ.2.2.2.1 3) (e6 : σ'.2.2.2.2 = σ.2.2.2.2) : SBP X cm o σ' ow f g H1 := by
  obtain ⟨a1, a2, a3, a4, a5, ⟨c, e, nu, b1, b2⟩, a7, ⟨n, co, d1, d2⟩, a9⟩ := h
  have hk2 := fun (t : Nat) (ht : t ≠ 21) => (fun q h9 (h8 : ow q = 21) => by omega : ∀ q, ow q = t → ¬ (fun q => ow q = 21) q)
  refine ⟨a1, ?_, fun i hi => ?_, h21, ?_, ⟨c, e, nu, b1, b2.keep hk (hk2 23 (by omega))⟩, ?_, ⟨n, co, d1, d2.keep hk (hk2 25 (by omega))⟩, by rw [e5]; exact a9⟩
  · have := a2.keep hk (hk2 20 (by omega))
    unfold obW at this ⊢
    rw [e4, e6]
    exact this
  · have := (a3 i hi).keep hk (hk2 i (by omega))
    have ek : sbK σ' i = sbK σ i := by
      match i with
      | 0 => exact e1
      | 1 => exact e2
      | n + 2 => exact congrFun e3 n
    rw [ek]
    exact this
  · rw [e6]; exact a5.keep hk (hk2 22 (by omega))
  · rw [e5, e6]; exact a7.keep hk (hk2 24 (by omega))
def sbKeep (σ : Sb) : Sb := sbN (sbN σ 1 ((σ.2.2.2.1 1 + 1) % 9)) 0 (if 8 < σ.2.2.2.1 0 + 1 then 8 else σ.2.2.2.1 0 + 1)
/-- the sky alone -/
def sbSky (σ : Sb) (q : Sk) : Sb := (q, σ.2)
def sbBack (σ : Sb) : Sb := sbSky (sbN (sbN σ 1 ((σ.2.2.2.1 1 + 9 - 1) % 9)) 0 (σ.2.2.2.1 0 - 1)) (σ.2.2.1 ((σ.2.2.2.1 1 + 9 - 1) % 9))
theorem min8 : ∀ c, c < 9 → (if (8 : Int32) < nI (c + 1) then (8 : Int32) else nI (c + 1)) = nI (if 8 < c + 1 then 8 else c + 1) := by decide +kernel
/-- the ring's own numbers -/
def Okp (σ : Sb) : Prop := σ.2.2.2.1 0 ≤ 8 ∧ σ.2.2.2.1 1 < 9
theorem SBP.upd {X : Cx} {cm : Nat → Nat} {o : Nat} {σ σ' : Sb} {ow : Nat → Nat} {f : Nat → Nat → Nat} {g : Nat → Nat} {H H1 : Heap} (T : Nat → Prop) (h : SBP X cm o σ ow f g H) (hk : ∀ q : Nat, q < H.size → ¬ T (ow q) → H1[q]? = H[q]?) (hT : ∀ t, T t → t < 11 ∨ t = 21) (hs : ∀ i, i < 11 → (T i ∧ Tw X ow i (skW X (f i) (sbK σ' i)) H1) ∨ (¬ T i ∧ sbK σ' i = sbK σ i)) (h21 : Tw X ow 21 (paW X f g σ') H1) (e4 : σ'.2.2.2.1 2 = σ.2.2.2.1 2) (e5 : σ'.2.2.2.1 3 = σ.2.2.2.1 3) (e6 : σ'.2.2.2.2 = σ.2.2.2.2) : SBP X cm o σ' ow f g H1 := by
  obtain ⟨a1, a2, a3, a4, a5, ⟨c, e, nu, b1, b2⟩, a7, ⟨n, co, d1, d2⟩, a9⟩ := h
  have hk2 := fun (t : Nat) (ht : ¬ T t) => (fun q h9 (h8 : T (ow q)) => ht (by rw [← h9]; exact h8) : ∀ q, ow q = t → ¬ (fun q => T (ow q)) q)
  have n20 : ¬ T 20 := fun h => by have := hT _ h; omega
  have n22 : ¬ T 22 := fun h => by have := hT _ h; omega
  have n23 : ¬ T 23 := fun h => by have := hT _ h; omega
  have n24 : ¬ T 24 := fun h => by have := hT _ h; omega
  have n25 : ¬ T 25 := fun h => by have := hT _ h; omega
  refine ⟨a1, ?_, fun i hi => ?_, h21, ?_, ⟨c, e, nu, b1, b2.keep hk (hk2 23 n23)⟩, ?_, ⟨n, co, d1, d2.keep hk (hk2 25 n25)⟩, by rw [e5]; exact a9⟩
  · have := a2.keep hk (hk2 20 n20)
    unfold obW at this ⊢
    rw [e4, e6]
    exact this
  · rcases hs i hi with h1 | h1
    · exact h1.2
    · rw [h1.2]
      exact (a3 i hi).keep hk (hk2 i h1.1)
  · rw [e6]; exact a5.keep hk (hk2 22 n22)
  · rw [e5, e6]; exact a7.keep hk (hk2 24 n24)
/-- the sky is noted in the ring's next row -/
def sbNote (σ : Sb) : Sb := (σ.1, σ.2.1, (fun n => if n = σ.2.2.2.1 1 then σ.1 else σ.2.2.1 n), σ.2.2.2)
theorem sbS_note (σ : Sb) : sbS σ (2 + σ.2.2.2.1 1) σ.1 = sbNote σ := by
  unfold sbS sbNote
  rw [if_neg (by omega), if_neg (by omega)]
  congr 3
  funext n
  by_cases h : n = σ.2.2.2.1 1
  · rw [if_pos h, if_pos (by omega)]
  · rw [if_neg h, if_neg (by omega)]
def sbChg (σ : Sb) (R : R3) : Sb := if R.1 < 0 then sbOp (sbNote σ) R else sbKeep (sbOp (sbNote σ) R)
def sbSave (σ : Sb) : Sb := sbN (σ.1, σ.1, σ.2.2) 2 1
def sbRest (σ : Sb) : Sb := sbN (sbSky σ σ.2.1) 0 0
theorem SBP.ob {X : Cx} {cm : Nat → Nat} {o : Nat} {σ σ' : Sb} {ow : Nat → Nat} {f : Nat → Nat → Nat} {g : Nat → Nat} {H H1 : Heap} (h : SBP X cm o σ ow f g H) (oq : ∀ q : Nat, q ≠ o → H1[q]? = H[q]?) (h20 : Tw X ow 20 (obW o f g σ') H1) (e1 : σ'.1 = σ.1) (e2 : σ'.2.1 = σ.2.1) (e3 : σ'.2.2.1 = σ.2.2.1) (n0 : σ'.2.2.2.1 0 = σ.2.2.2.1 0) (n1 : σ'.2.2.2.1 1 = σ.2.2.2.1 1) (n3 : σ'.2.2.2.1 3 = σ.2.2.2.1 3) (e6 : ∀ i, i < 4 → σ'.2.2.2.2.1 i = σ.2.2.2.2.1 i) (e7 : σ'.2.2.2.2.2 = σ.2.2.2.2.2) : SBP X cm o σ' ow f g H1 := by
  obtain ⟨a1, a2, a3, a4, a5, ⟨c, e, nu, b1, b2⟩, ⟨v, cap, ml, bs, d1, d2⟩, ⟨n, co, f1, v', cap', ml', bs', f2, f3⟩, a9⟩ := h
  have to : ow o = 20 := a2.tag 0 rfl
  have ne : ∀ t, t ≠ 20 → ow o ≠ t := fun t h => by rw [to]; exact h.symm
  refine ⟨a1, h20, fun i hi => ?_, ?_, ?_, ⟨c, e, nu, b1, b2.fr1 oq (ne _ (by decide))⟩, ?_, ⟨n, co, f1, v', cap', ml', bs', f2.fr1 oq (ne _ (by decide)), f3⟩, by rw [n3]; exact a9⟩
  · have ek : sbK σ' i = sbK σ i := by
      match i with
      | 0 => exact e1
      | 1 => exact e2
      | n + 2 => exact congrFun e3 n
    rw [ek]
    exact (a3 i hi).fr1 oq (ne _ (by omega))
  · have := a4.fr1 oq (ne 21 (by decide))
    unfold paW at this ⊢
    rw [n0, n1]
    exact this
  · have := a5.fr1 oq (ne 22 (by decide))
    unfold reW at this ⊢
    rw [e6 0 (by decide), e6 1 (by decide), e6 2 (by decide), e6 3 (by decide)]
    exact this
  · rw [n3, e7]
    exact ⟨v, cap, ml, bs, d1.fr1 oq (ne _ (by decide)), d2⟩
