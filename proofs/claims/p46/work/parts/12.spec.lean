/-! what the reading methods answer, over a sky's model -/
def sI (F : Nat → Int32) : Nat → Int32
  | 0 => 0
  | n + 1 => sI F n + F n
def gS (F : Nat → Nat) (a : Nat) : Nat → Nat
  | 0 => 0
  | n + 1 => gS F a n + F (a + n)
def cl (k : Sk) (g : Nat) : Nat := (k.1 4 g).toNatClampNeg
/-- the clouds are from 0 to 9 -/
def Okc (k : Sk) : Prop := ∀ g, g < 4 → k.1 4 g = nI (cl k g) ∧ cl k g ≤ 9
def cBr (k : Sk) (g : Int32) (b : Int32) : Nat := cN (fun z => decide (k.1 1 z = g) && decide (k.1 0 z = b)) (k.2 0)
def dM (k : Sk) (g : Nat) : Nat → Int32
  | 0 => 0
  | j + 1 => if k.1 1 j = nI g then (if dM k g j < k.1 4 g - k.1 0 j + 1 then k.1 4 g - k.1 0 j + 1 else dM k g j) else dM k g j
def brB (k : Sk) (i j : Nat) : Bool := if k.1 0 i = k.1 0 j then (if k.1 3 i = k.1 3 j then decide (nI i < nI j) else decide (k.1 3 j < k.1 3 i)) else decide (k.1 0 j < k.1 0 i)
/-- the first place from j on with P, of n places; d without one -/
def fnd (P : Nat → Bool) (d : Int32) : Nat → Nat → Int32
  | 0, _ => d
  | n + 1, j => if P j then nI j else fnd P d n (j + 1)
def rankS (k : Sk) (j : Nat) : Nat := cN (fun z => brB k z j) (k.2 0)
def isImp (k : Sk) (w : Nat) : Bool := !decide (k.1 18 w = -4)
def iN (k : Sk) (g : Int32) : Nat → Nat
  | 0 => 0
  | j + 1 => if (decide (k.1 14 j = g) && isImp k j) = true then iN k g j + 2 ^ j else iN k g j
theorem iN_lt (k : Sk) (g : Int32) (j : Nat) : iN k g j < 2 ^ j := by
  induction j with
  | zero => exact Nat.one_pos
  | succ j ih => unfold iN; have := Nat.pow_succ 2 j; split <;> omega
theorem bit_add : ∀ j, j < 8 → ∀ a, a < 2 ^ j → nI a ||| (1 <<< (nI j &&& 31)) = nI (a + 2 ^ j) := by decide +kernel
def levI (k : Sk) (r : Int32) (i : Nat) : Int32 := if isSeen k i = true then (if k.1 2 i = r then 0 else k.1 0 i) else 0
def cost (k : Sk) (w : Nat) : Int32 := k.1 0 (wS k w) + k.1 18 w
def grB (k : Sk) (w : Nat) : Bool := !isImp k w && isSeen k (wS k w)
def bitI (j : Nat) : Int32 := 1 <<< (nI j &&& 31)
/-- the cheapest wish of a set -/
def cwR (k : Sk) (set : Int32) : Nat → Int32
  | 0 => -4
  | j + 1 => if set &&& bitI j = 0 then cwR k set j else if cwR k set j = -4 then nI j else if cost k j < cost k (cwR k set j).toNatClampNeg then nI j else cwR k set j
theorem cwR_in (k : Sk) (set : Int32) (j : Nat) (hj : j ≤ 8) (h : ¬ cwR k set j = -4) : cwR k set j = nI (cwR k set j).toNatClampNeg ∧ (cwR k set j).toNatClampNeg < j := by
  induction j with
  | zero => exact absurd rfl h
  | succ j ih =>
    have e : (nI j).toNatClampNeg = j := nI_clamp (by omega)
    unfold cwR at h ⊢
    split at h
    next h1 => rw [if_pos h1]; have := ih (by omega) h; exact ⟨this.1, by omega⟩
    next h1 =>
      rw [if_neg h1]
      split at h
      next h2 => rw [if_pos h2, e]; exact ⟨rfl, by omega⟩
      next h2 =>
        rw [if_neg h2]
        split at h
        next h3 => rw [if_pos h3, e]; exact ⟨rfl, by omega⟩
        next h3 => rw [if_neg h3]; have := ih (by omega) h; exact ⟨this.1, by omega⟩
def coS (k : Sk) (set : Int32) : Nat → Int32
  | 0 => 0
  | j + 1 => if set &&& bitI j = 0 then coS k set j else coS k set j + cost k j
def ush (x n : Int32) : Int32 := (x.toUInt32 >>> (n.toUInt32 &&& Int32.toUInt32 31)).toInt32
def bc1 (x : Int32) : Int32 := x - (ush x 1 &&& 1431655765)
def bc2 (x : Int32) : Int32 := (x &&& 858993459) + (ush x 2 &&& 858993459)
def bc3 (x : Int32) : Int32 := (x + ush x 4) &&& 252645135
def bc4 (x : Int32) : Int32 := x + ush x 8
def bc5 (x : Int32) : Int32 := x + ush x 16
def bcI (x : Int32) : Int32 := bc5 (bc4 (bc3 (bc2 (bc1 x)))) &&& 63
/-- the most wishes of the sets below d that the coins pay -/
def tR (k : Sk) (r A : Nat) : Nat → Int32
  | 0 => 0
  | d + 1 => if nI d &&& (nI A ^^^ (-1)) = 0 ∧ coS k (nI d) (k.2 2) ≤ k.1 5 r then (if tR k r A d < bcI (nI d) then bcI (nI d) else tR k r A d) else tR k r A d
/-- how many are redeemed, the cheapest first -/
def gre (k : Sk) : Nat → Int32 → Int32 → Nat → Int32
  | 0, _, _, _ => 8
  | n + 1, lf, op, c => if cwR k op (k.2 2) = -4 then nI c else if cost k (cwR k op (k.2 2)).toNatClampNeg ≤ lf then gre k n (lf - cost k (cwR k op (k.2 2)).toNatClampNeg) (op &&& ((1 <<< (cwR k op (k.2 2) &&& 31)) ^^^ (-1))) (c + 1) else nI c
def chB (k : Sk) (r i o : Nat) : Bool := if levI k (nI r) i = levI k (nI r) o then decide (k.1 0 o < k.1 0 i) else decide (levI k (nI r) i < levI k (nI r) o)
def opB (k : Sk) (r i : Nat) : Bool := isSeen k i && decide (k.1 12 r &&& bitI i = 0)
def csR (k : Sk) (r : Nat) : Nat → Int32
  | 0 => -4
  | j + 1 => if opB k r j = true then (if csR k r j = -4 then nI j else if chB k r j (csR k r j).toNatClampNeg = true then nI j else csR k r j) else csR k r j
theorem csR_in (k : Sk) (r : Nat) (j : Nat) (hj : j ≤ 8) (h : ¬ csR k r j = -4) : csR k r j = nI (csR k r j).toNatClampNeg ∧ (csR k r j).toNatClampNeg < j := by
  induction j with
  | zero => exact absurd rfl h
  | succ j ih =>
    have e : (nI j).toNatClampNeg = j := nI_clamp (by omega)
    unfold csR at h ⊢
    split at h
    next h1 =>
      rw [if_pos h1]
      split at h
      next h2 => rw [if_pos h2, e]; exact ⟨rfl, by omega⟩
      next h2 =>
        rw [if_neg h2]
        split at h
        next h3 => rw [if_pos h3, e]; exact ⟨rfl, by omega⟩
        next h3 => rw [if_neg h3]; have := ih (by omega) h; exact ⟨this.1, by omega⟩
    next h1 => rw [if_neg h1]; have := ih (by omega) h; exact ⟨this.1, by omega⟩
def cWr (k : Sk) (r : Nat) : Nat := cN (fun z => decide (k.1 14 z = nI r)) (k.2 2)
def riB (k : Sk) (i j : Nat) : Bool := if k.1 5 i - k.1 6 i = k.1 5 j - k.1 6 j then (if nI (cWr k i) = nI (cWr k j) then decide (nI i < nI j) else decide (nI (cWr k i) < nI (cWr k j))) else decide (k.1 5 j - k.1 6 j < k.1 5 i - k.1 6 i)
def rankR (k : Sk) (j : Nat) : Nat := cN (fun z => riB k z j) (k.2 1)
def noW : Heap → Prop := fun _ => True
