/-! the state of a sky: rows (0 brightness, 1 sector, 2 claimant, 3 sightings, 4 clouds, 5 coins, 6 debt, 7 stay, 8 levied, 9 paid, 10 granted, 11 forfeited, 12 sighted, 13 sightedSeen, 14 the wishes' roof, 15 star, 16 kind, 17 age, 18 impounded; row 19: 0 nights, 1 exempt) and counts (0 stars, 1 roofs, 2 wishes) -/
abbrev Sk : Type := (Nat → Nat → Int32) × (Nat → Nat)
/-- the cells of a sky; f: their addresses -/
abbrev skW (X : Cx) (f : Nat → Nat) (k : Sk) : va_W := [
  (f 0, .inr (4, [.ref (f 1), .ref (f 2), .ref (f 3), .int (k.1 19 0), .int (k.1 19 1)])),
  (f 1, .inr (5, [.int (nI (k.2 0)), .ref (f 4), .ref (f 5), .ref (f 6), .ref (f 7), .ref (f 8)])),
  (f 2, .inr (3, [.int (nI (k.2 1)), .ref (f 9), .ref (f 10), .ref (f 11), .ref (f 12), .ref (f 13), .ref (f 14), .ref (f 15), .ref (f 16), .ref (f 17)])),
  (f 3, .inr (6, [.int (nI (k.2 2)), .ref (f 18), .ref (f 19), .ref (f 20), .ref (f 21), .ref (f 22)])),
  (f 4, .inl (X.cI, 8, .inl (k.1 0))), (f 5, .inl (X.cI, 8, .inl (k.1 1))), (f 6, .inl (X.cI, 8, .inl (k.1 2))), (f 7, .inl (X.cI, 8, .inl (k.1 3))), (f 8, .inl (X.cI, 4, .inl (k.1 4))),
  (f 9, .inl (X.cI, 5, .inl (k.1 5))), (f 10, .inl (X.cI, 5, .inl (k.1 6))), (f 11, .inl (X.cI, 5, .inl (k.1 7))), (f 12, .inl (X.cI, 5, .inl (k.1 8))), (f 13, .inl (X.cI, 5, .inl (k.1 9))), (f 14, .inl (X.cI, 5, .inl (k.1 10))), (f 15, .inl (X.cI, 5, .inl (k.1 11))), (f 16, .inl (X.cI, 5, .inl (k.1 12))), (f 17, .inl (X.cI, 5, .inl (k.1 13))),
  (f 18, .inl (X.cI, 8, .inl (k.1 14))), (f 19, .inl (X.cI, 8, .inl (k.1 15))), (f 20, .inl (X.cI, 8, .inl (k.1 16))), (f 21, .inl (X.cI, 8, .inl (k.1 17))), (f 22, .inl (X.cI, 8, .inl (k.1 18)))]
/-- a row changed at a place; a count changed -/
def sU (k : Sk) (r i : Nat) (v : Int32) : Sk := (fun r' => if r' = r then upd (k.1 r) i v else k.1 r', k.2)
def sC (k : Sk) (i n : Nat) : Sk := (k.1, fun i' => if i' = i then n else k.2 i')
/-- the number of places below n with p -/
def cN (p : Nat → Bool) : Nat → Nat
  | 0 => 0
  | n + 1 => cN p n + (if p n then 1 else 0)
theorem cN_le (p : Nat → Bool) (n : Nat) : cN p n ≤ n := by
  induction n with
  | zero => exact Nat.le_refl 0
  | succ n ih => unfold cN; split <;> omega
theorem cN_t {p : Nat → Bool} {n : Nat} (h : p n = true) : cN p (n + 1) = cN p n + 1 := by simp [cN, h]
theorem cN_f {p : Nat → Bool} {n : Nat} (h : p n = false) : cN p (n + 1) = cN p n := by simp [cN, h]
/-- what keeps every index within its row -/
def sN (k : Sk) (i : Nat) : Nat := (k.1 1 i).toNatClampNeg
def wR (k : Sk) (w : Nat) : Nat := (k.1 14 w).toNatClampNeg
def wS (k : Sk) (w : Nat) : Nat := (k.1 15 w).toNatClampNeg
def Ok (k : Sk) : Prop := k.2 0 ≤ 8 ∧ k.2 1 ≤ 5 ∧ k.2 2 ≤ 8 ∧ (∀ i, i < k.2 0 → k.1 1 i = nI (sN k i) ∧ sN k i < 4) ∧ (∀ w, w < k.2 2 → k.1 14 w = nI (wR k w) ∧ wR k w < k.2 1) ∧ (∀ w, w < k.2 2 → k.1 15 w = nI (wS k w) ∧ wS k w < k.2 0)
/-- a place that is there -/
def hasI (n : Nat) (i : Int32) : Int32 := if 0 ≤ i ∧ i < nI n then 1 else 0
theorem hasI_t {n : Nat} {i : Int32} (h : 0 ≤ i ∧ i < nI n) : hasI n i = 1 := if_pos h
theorem hasI_f {n : Nat} {i : Int32} (h : ¬ (0 ≤ i ∧ i < nI n)) : hasI n i = 0 := if_neg h
def winI (x a b : Int32) : Int32 := if a ≤ x ∧ x ≤ b then 1 else 0
def isSeen (k : Sk) (i : Nat) : Bool := decide (k.1 4 (sN k i) < k.1 0 i)
def bI (b : Bool) : Int32 := if b then 1 else 0
theorem bI_t {b : Bool} (h : b = true) : bI b = 1 := by simp [bI, h]
theorem bI_f {b : Bool} (h : b = false) : bI b = 0 := by simp [bI, h]
theorem bI_0 {b : Bool} : bI b = 0 ↔ b = false := by cases b <;> decide
theorem bI_n0 {b : Bool} : ¬ bI b = 0 ↔ b = true := by cases b <;> decide
theorem bI_nar (b : Bool) : narrow .boolean (.int (bI b)) = .int (bI b) := by cases b <;> rfl
theorem lv_eqv {ls : Array Slot} {n : Nat} {l1 l2 : List (Nat × Value)} (h : lv_has ls n l1) (e : l1 = l2) : lv_has ls n l2 := e ▸ h
def hasB (n : Nat) (i : Int32) : Bool := decide (0 ≤ i ∧ i < nI n)
def winB (x a b : Int32) : Bool := decide (a ≤ x ∧ x ≤ b)
theorem hasB_t {n : Nat} {i : Int32} (h : hasB n i = true) (hn : n < 1000) : ∃ j, j < n ∧ i = nI j := by
  have h1 := of_decide_eq_true h
  obtain ⟨j, hj, rfl⟩ := nI_of (Int32.not_lt.mpr h1.1)
  exact ⟨j, (nI_ltI (by omega) (by omega)).mp h1.2, rfl⟩
theorem hasB_nI {n j : Nat} (hj : j < n) (hn : n < 1000) : hasB n (nI j) = true := decide_eq_true ⟨nI_pos' (by omega), nI_lt hj (by omega)⟩
