/-! (to be proved) what the law asks of a sky, and of the changes -/
/-- every command keeps the invariant -/
theorem Inv_oCmd {N : Nat} {k : Sk} (h : Inv N k) (hN : N + 1 ≤ 1000000) (E : Nat → Int32) (cd : Nat) (a b c : Int32) : Inv (N + 1) (oCmd k E cd a b c).2.1 := sorry
/-- what a command answers; a refused one leaves the sky -/
theorem oCmd_ret {N : Nat} {k : Sk} (h : Inv N k) (hN : N + 1 ≤ 1000000) (E : Nat → Int32) (cd : Nat) (a b c : Int32) : (((oCmd k E cd a b c).1 = -1 ∨ (oCmd k E cd a b c).1 = -2 ∨ (oCmd k E cd a b c).1 = -3 ∧ 0 < (oCmd k E cd a b c).2.2 0) ∧ (oCmd k E cd a b c).2.1 = k) ∨ ¬ (oCmd k E cd a b c).1 < 0 := sorry
/-- a dawn -/
def las (k : Sk) (w : Nat) : Bool := decide (k.1 18 w = 2)
theorem dawn_f {N : Nat} {k : Sk} (h : Inv N k) (hN : N ≤ 1000000) (k' : Sk) (hk : k' = (oDawn k).2) :
    nI (k'.2 2) = nI (k.2 2) - nI (cN (fun z => grB k z) (k.2 2)) - nI (cN (las k) (k.2 2)) ∧ accV k' 3 = accV k 3 - nI (cN (las k) (k.2 2)) ∧ sI (k'.1 11) (k'.2 1) = sI (k.1 11) (k.2 1) + nI (cN (las k) (k.2 2)) ∧ k'.2 1 = k.2 1 ∧ ∀ r, r < k'.2 1 → k'.1 12 r = 0 ∧ k'.1 13 r = 0 := sorry
/-- impounding -/
def poB (k : Sk) (r : Nat) : Bool := decide (k.1 7 r = 0) && (decide (10 ≤ k.1 6 r) && decide (0 < roofV k r 2 - roofV k r 3))
theorem pound_f {N : Nat} {k : Sk} (h : Inv N k) (hN : N ≤ 1000000) (E : Nat → Int32) {r : Nat} (hr : r < k.2 1) (R : R3) (hR : R = oCmd k E 8 (nI r) 0 0) :
    (R.1 = -3 ∧ poB k r = false ∧ R.2.1 = k) ∨ (¬ R.1 < 0 ∧ poB k r = true ∧ R.1 = roofV k r 2 - roofV k r 3 ∧ roofV R.2.1 r 3 = roofV R.2.1 r 2 ∧ R.2.1.2 = k.2) := sorry
/-- redeeming -/
theorem redeem_f {N : Nat} {k : Sk} (h : Inv N k) (hN : N ≤ 1000000) (E : Nat → Int32) {w : Nat} (hw : w < k.2 2) (h1 : ¬ wishV k w 5 = -4) (h2 : wishV k w 5 ≤ k.1 5 (wR k w)) (R : R3) (hR : R = oCmd k E 9 (nI w) 0 0) :
    ¬ R.1 < 0 ∧ R.1 = wishV k w 5 ∧ R.2.1.1 5 (wR k w) = k.1 5 (wR k w) - wishV k w 5 ∧ R.2.1.1 18 w = -4 ∧ R.2.1.2 = k.2 ∧ R.2.1.1 14 = k.1 14 := sorry
