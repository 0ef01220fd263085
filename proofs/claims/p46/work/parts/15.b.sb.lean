/-! the state of a whole object: the sky, what is saved, the nine skies of the past; whole numbers (0 past.count, 1 past.next, 2 isSaved, 3 the input's length); ints (0 to 3 the refusal's, 4 faultAt); the input's codes -/
abbrev Sb : Type := Sk × Sk × (Nat → Sk) × (Nat → Nat) × (Nat → Int32) × (Nat → Nat)
def sbK (σ : Sb) : Nat → Sk
  | 0 => σ.1
  | 1 => σ.2.1
  | n + 2 => σ.2.2.1 n
abbrev obW (o : Nat) (f : Nat → Nat → Nat) (g : Nat → Nat) (σ : Sb) : va_W := [(o, .inr (8, [.ref (f 0 0), .ref (f 1 0), .ref (g 0), .ref (g 1), .ref (g 2), .ref (g 3), .ref (g 4), .int (nI (σ.2.2.2.1 2)), .int (σ.2.2.2.2.1 4)]))]
abbrev paW (X : Cx) (f : Nat → Nat → Nat) (g : Nat → Nat) (σ : Sb) : va_W := [(g 0, .inr (1, [.int (nI (σ.2.2.2.1 0)), .int (nI (σ.2.2.2.1 1)), .ref (g 5)])), (g 5, .inl (X.cS, 9, .inr (.inr (.inr (.inr (fun i => some (f (2 + i) 0)))))))]
abbrev reW (a : Nat) (r : Nat → Int32) : va_W := [(a, .inr (2, [.int (r 0), .int (r 1), .int (r 2), .int (r 3)]))]
abbrev woW (X : Cx) (g : Nat → Nat) (cmd : Nat) (e : Int32) (nu : Nat → Int32) : va_W := [(g 2, .inr (7, [.ref cmd, .int e, .ref (g 6)])), (g 6, .inl (X.cI, 3, .inl nu))]
abbrev bfW (X : Cx) (a v : Nat) (ml : Int32) (n cap : Nat) (bs : Nat → Int32) : va_W := [(a, .inr (0, [.ref v, .int 0, .int ml, .int (nI n)])), (v, .inl (X.cB, cap, .inl bs))]
/-- a builder: n letters with the codes t, all of them bytes; room for at most 130 -/
def bfH (X : Cx) (ow : Nat → Nat) (t a n : Nat) (co : Nat → Nat) (H : Heap) : Prop := ∃ (v cap : Nat) (ml : Int32) (bs : Nat → Int32), Tw X ow t (bfW X a v ml n cap bs) H ∧ n ≤ cap ∧ 16 ≤ cap ∧ cap ≤ 130 ∧ sb_Fit bs ∧ (∀ j, j < n → co j < 256 ∧ bs j = sb_b (co j)) ∧ (ml = 0 ∨ ml = 1)
/-- the object at o holds σ, its cells with the owners ow at the addresses f, g; cm: where the twelve commands lie -/
def SBP (X : Cx) (cm : Nat → Nat) (o : Nat) (σ : Sb) (ow : Nat → Nat) (f : Nat → Nat → Nat) (g : Nat → Nat) (H : Heap) : Prop :=
  (∀ q, ow q < 100 → X.z ≤ q) ∧ Tw X ow 20 (obW o f g σ) H ∧ (∀ i, i < 11 → Tw X ow i (skW X (f i) (sbK σ i)) H) ∧ Tw X ow 21 (paW X f g σ) H ∧ Tw X ow 22 (reW (g 1) σ.2.2.2.2.1) H ∧
  (∃ (c : Nat) (e : Int32) (nu : Nat → Int32), c < 12 ∧ Tw X ow 23 (woW X g (cm c) e nu) H) ∧ bfH X ow 24 (g 3) (σ.2.2.2.1 3) σ.2.2.2.2.2 H ∧ (∃ (n : Nat) (co : Nat → Nat), n ≤ 60 ∧ bfH X ow 25 (g 4) n co H) ∧ σ.2.2.2.1 3 ≤ 60
def SBH (X : Cx) (cm : Nat → Nat) (o : Nat) (σ : Sb) (H : Heap) : Prop := ∃ (ow : Nat → Nat) (f : Nat → Nat → Nat) (g : Nat → Nat), SBP X cm o σ ow f g H
theorem winB_nI {g : Nat} (h : g < 4) : winB (nI g) 0 3 = true := decide_eq_true ⟨nI_pos' (by omega), nI_le (a := g) (b := 3) (by omega) (by omega)⟩
def starV (k : Sk) (i : Nat) : Nat → Int32
  | 0 => k.1 0 i
  | 1 => k.1 1 i
  | 2 => bI (isSeen k i)
  | 3 => k.1 2 i
  | 4 => k.1 3 i
  | _ => nI (cN (fun z => decide (k.1 15 z = nI i)) (k.2 2))
def roofV (k : Sk) (r : Nat) : Nat → Int32
  | 0 => k.1 5 r
  | 1 => k.1 7 r
  | 2 => nI (cN (fun z => decide (k.1 14 z = nI r)) (k.2 2))
  | 3 => bcI (nI (iN k (nI r) (k.2 2)))
  | 4 => k.1 10 r
  | 5 => k.1 11 r
  | 6 => nI (cN (fun z => decide (k.1 2 z = nI r)) (k.2 0))
  | 7 => k.1 12 r
  | _ => k.1 13 r
def wishV (k : Sk) (w : Nat) : Nat → Int32
  | 0 => k.1 14 w
  | 1 => k.1 15 w
  | 2 => k.1 16 w
  | 3 => k.1 17 w
  | 4 => k.1 18 w
  | _ => if isImp k w = true then cost k w else -4
def accV (k : Sk) : Nat → Int32
  | 0 => nI (k.2 0)
  | 1 => nI (k.2 1)
  | 2 => nI (k.2 2)
  | 3 => nI (k.2 2) - nI (cN (fun z => decide (k.1 18 z = -4)) (k.2 2))
  | 4 => nI (k.2 0) - nI (cN (fun z => decide (k.1 2 z = -4)) (k.2 0))
  | 5 => k.1 19 0
  | 6 => sI (k.1 3) (k.2 0)
  | 7 => k.1 19 1
  | 8 => sI (k.1 8) (k.2 1)
  | 9 => sI (k.1 9) (k.2 1)
  | 10 => sI (k.1 10) (k.2 1)
  | _ => sI (k.1 11) (k.2 1)
def seenN (k : Sk) (g : Nat) : Int32 := nI (cN (fun z => decide (k.1 1 z = nI g) && isSeen k z) (k.2 0))
def seenA (k : Sk) (g : Nat) : Int32 := nI (gS (fun b => cBr k (nI g) (nI b)) (cl k g + 1) (9 - cl k g))
def couN (k : Sk) (r : Nat) : Int32 := gre k 8 (k.1 5 r) (nI (iN k (nI r) (k.2 2))) 0
def couA (k : Sk) (r : Nat) : Int32 := tR k r (iN k (nI r) (k.2 2)) (iN k (nI r) (k.2 2) + 1)
/-- both ways tell the same -/
def Well (k : Sk) : Prop := (∀ r, r < k.2 1 → k.1 6 r = k.1 8 r - k.1 9 r ∧ couN k r = couA k r) ∧ ∀ g, g < 4 → seenN k g = seenA k g
theorem bfH.keep {X : Cx} {ow : Nat → Nat} {t a n : Nat} {co : Nat → Nat} {H H1 : Heap} {A1 : Nat → Prop} (h : bfH X ow t a n co H) (hk : ∀ q : Nat, q < H.size → ¬ A1 q → H1[q]? = H[q]?) (hA : ∀ q, ow q = t → ¬ A1 q) : bfH X ow t a n co H1 := by
  obtain ⟨v, cap, ml, bs, h1, h2⟩ := h
  exact ⟨v, cap, ml, bs, h1.keep hk hA, h2⟩
theorem SBH.rec {X : Cx} {cm : Nat → Nat} {o : Nat} {σ : Sb} {H : Heap} (h : SBH X cm o σ H) : ∃ fs, va_at X.D vwCl (o, .inr (8, fs)) H := by
  obtain ⟨ow, f, g, -, h1, -⟩ := h
  exact ⟨_, h1.1 0 _ rfl⟩
/-- a change of the sky and of the refusal -/
def sbOp (σ : Sb) (R : R3) : Sb := (R.2.1, σ.2.1, σ.2.2.1, σ.2.2.2.1, (fun i => if i < 4 then R.2.2 i else σ.2.2.2.2.1 i), σ.2.2.2.2.2)
theorem SBP.op {X : Cx} {cm : Nat → Nat} {o : Nat} {σ : Sb} {ow : Nat → Nat} {f : Nat → Nat → Nat} {g : Nat → Nat} {H H1 : Heap} (h : SBP X cm o σ ow f g H) {R : R3} (hk : ∀ q : Nat, q < H.size → ¬ (ow q = 0 ∨ ow q = 22) → H1[q]? = H[q]?) (h0 : Tw X ow 0 (skW X (f 0) R.2.1) H1) (h22 : Tw X ow 22 (reW (g 1) R.2.2) H1) : SBP X cm o (sbOp σ R) ow f g H1 := by
  obtain ⟨a1, a2, a3, a4, a5, ⟨c, e, nu, b1, b2⟩, a7, ⟨n, co, d1, d2⟩, a9⟩ := h
  have hk := fun (t : Nat) (ht : t ≠ 0 ∧ t ≠ 22) => (fun q h9 (h8 : ow q = 0 ∨ ow q = 22) => by omega : ∀ q, ow q = t → ¬ (fun q => ow q = 0 ∨ ow q = 22) q)
  refine ⟨a1, a2.keep ‹_› (hk 20 (by decide)), fun i hi => ?_, a4.keep ‹_› (hk 21 (by decide)), h22, ⟨c, e, nu, b1, b2.keep ‹_› (hk 23 (by decide))⟩, a7.keep ‹_› (hk 24 (by decide)), ⟨n, co, d1, d2.keep ‹_› (hk 25 (by decide))⟩, a9⟩
  match i, hi with
  | 0, _ => exact h0
  | 1, hi => exact (a3 1 hi).keep ‹_› (hk 1 (by decide))
  | i + 2, hi => exact (a3 (i + 2) hi).keep ‹_› (hk (i + 2) (by omega))
