/-! what the changing methods do, over a sky's model and the refusal's four numbers -/
def tn (x : Int32) : Nat := x.toNatClampNeg
theorem tn_nI {n : Nat} (h : n < 2147483648) : tn (nI n) = n := nI_clamp h
theorem hasB_tn {n : Nat} {x : Int32} (h : hasB n x = true) (hn : n < 1000) : x = nI (tn x) ∧ tn x < n := by
  obtain ⟨j, hj, rfl⟩ := hasB_t h hn
  rw [tn_nI (by omega)]
  exact ⟨rfl, hj⟩
theorem winB_tn {x : Int32} (h : winB x 0 3 = true) : x = nI (tn x) ∧ tn x < 4 := by
  have h1 := of_decide_eq_true h
  obtain ⟨j, hj, rfl⟩ := nI_of2 (n := 3) (by decide) (Int32.not_lt.mpr h1.1) h1.2
  rw [tn_nI (by omega)]
  exact ⟨rfl, by omega⟩
theorem Ok_sU {k : Sk} {r : Nat} (i : Nat) (v : Int32) (hr : r ≠ 1 ∧ r ≠ 14 ∧ r ≠ 15) (h : Ok k) : Ok (sU k r i v) := by
  have e : ∀ r', r' ≠ r → (sU k r i v).1 r' = k.1 r' := fun r' h9 => if_neg h9
  obtain ⟨h1, h2, h3, h4, h5, h6⟩ := h
  refine ⟨h1, h2, h3, fun z hz => ?_, fun z hz => ?_, fun z hz => ?_⟩
  · have := h4 z hz
    unfold sN at this ⊢
    rw [e 1 (fun h => hr.1 h.symm)]
    exact this
  · have := h5 z hz
    unfold wR at this ⊢
    rw [e 14 (fun h => hr.2.1 h.symm)]
    exact this
  · have := h6 z hz
    unfold wS at this ⊢
    rw [e 15 (fun h => hr.2.2 h.symm)]
    exact this
def rfN (r d : Int32) : Nat → Int32 := upd (upd (upd (upd (fun _ => 0) 0 r) 1 d) 2 (-4)) 3 (-4)
abbrev R3 : Type := Int32 × Sk × (Nat → Int32)
def addS (k : Sk) (b s : Int32) : Sk := sC (sU (sU (sU (sU k 0 (k.2 0) b) 1 (k.2 0) s) 2 (k.2 0) (-4)) 3 (k.2 0) 0) 0 (k.2 0 + 1)
def addR (k : Sk) (c : Int32) : Sk := sC (sU (sU (sU (sU (sU (sU (sU (sU (sU k 5 (k.2 1) c) 6 (k.2 1) 0) 7 (k.2 1) 0) 8 (k.2 1) 0) 9 (k.2 1) 0) 10 (k.2 1) 0) 11 (k.2 1) 0) 12 (k.2 1) 0) 13 (k.2 1) 0) 1 (k.2 1 + 1)
def addW (k : Sk) (r s d : Int32) : Sk := sC (sU (sU (sU (sU (sU k 14 (k.2 2) r) 15 (k.2 2) s) 16 (k.2 2) d) 17 (k.2 2) 0) 18 (k.2 2) (-4)) 2 (k.2 2 + 1)
def mvW (k : Sk) (i j : Nat) : Sk := sU (sU (sU (sU (sU k 14 j (k.1 14 i)) 15 j (k.1 15 i)) 16 j (k.1 16 i)) 17 j (k.1 17 i)) 18 j (k.1 18 i)
def iA (k : Sk) (g : Int32) : Nat → Sk
  | 0 => k
  | j + 1 => if (decide ((iA k g j).1 14 j = g) && !isImp (iA k g j) j) = true then sU (iA k g j) 18 j 0 else iA k g j
def tA (k : Sk) (g : Int32) : Nat → Nat
  | 0 => 0
  | j + 1 => if (decide ((iA k g j).1 14 j = g) && !isImp (iA k g j) j) = true then tA k g j + 1 else tA k g j
theorem Ok_iA {k : Sk} (h : Ok k) (g : Int32) (j : Nat) : Ok (iA k g j) := by
  induction j with
  | zero => exact h
  | succ j ih => unfold iA; split; exact Ok_sU _ _ (by decide) ih; exact ih
theorem iA_2 (k : Sk) (g : Int32) (j : Nat) : (iA k g j).2 = k.2 := by
  induction j with
  | zero => rfl
  | succ j ih => unfold iA; split; exact ih; exact ih
def tC (k : Sk) : Nat → Sk
  | 0 => k
  | j + 1 => sU (tC k j) 4 j (if (tC k j).1 4 j - 1 < 0 then 0 else (tC k j).1 4 j - 1)
def bN (k : Sk) : Nat → Sk
  | 0 => k
  | j + 1 => sU (sU (sU (bN k j) 7 j (if (bN k j).1 7 j - 1 < 0 then 0 else (bN k j).1 7 j - 1)) 12 j 0) 13 j 0
theorem tC_2 (k : Sk) (j : Nat) : (tC k j).2 = k.2 := by
  induction j with
  | zero => rfl
  | succ j ih => exact ih
theorem bN_2 (k : Sk) (j : Nat) : (bN k j).2 = k.2 := by
  induction j with
  | zero => rfl
  | succ j ih => exact ih
theorem Ok_tC {k : Sk} (h : Ok k) (j : Nat) : Ok (tC k j) := by
  induction j with
  | zero => exact h
  | succ j ih => exact Ok_sU _ _ (by decide) ih
theorem Ok_bN {k : Sk} (h : Ok k) (j : Nat) : Ok (bN k j) := by
  induction j with
  | zero => exact h
  | succ j ih => exact Ok_sU _ _ (by decide) (Ok_sU _ _ (by decide) (Ok_sU _ _ (by decide) ih))
def payI (c lv : Int32) : Int32 := if lv < c then lv else c
def col4 (k : Sk) (j : Nat) (lv : Int32) : Sk := sU (sU (sU (sU k 5 j (k.1 5 j - payI (k.1 5 j) lv)) 6 j (k.1 6 j + (lv - payI (k.1 5 j) lv))) 8 j (k.1 8 j + lv)) 9 j (k.1 9 j + payI (k.1 5 j) lv)
def colS (k : Sk) (j : Nat) (lv cm : Int32) : Sk := if hasB (k.2 1) cm = true then sU (col4 k j lv) 5 (tn cm) ((col4 k j lv).1 5 (tn cm) + payI (k.1 5 j) lv / 2) else col4 k j lv
def oStar (k : Sk) (e : Nat → Int32) (b s : Int32) : R3 := if winB s 0 3 = true then (if winB b 1 9 = true then (if nI (k.2 0) < 8 then (nI (k.2 0), addS k b s, e) else (-3, k, rfN 1 8)) else (-2, k, e)) else (-1, k, e)
def oRoof (k : Sk) (e : Nat → Int32) (c : Int32) : R3 := if winB c 0 99 = true then (if nI (k.2 1) < 5 then (nI (k.2 1), addR k c, e) else (-3, k, rfN 1 5)) else (-2, k, e)
def oCloud (k : Sk) (e : Nat → Int32) (s c : Int32) : R3 := if winB s 0 3 = true then (if winB c 0 9 = true then (if k.1 4 (tn s) = c then (-3, k, rfN 2 c) else (k.1 4 (tn s), sU k 4 (tn s) c, e)) else (-2, k, e)) else (-1, k, e)
def sgt1 (k : Sk) (r x : Int32) : Sk := sU (sU k 12 (tn r) (k.1 12 (tn r) ||| (1 <<< (x &&& 31)))) 3 (tn x) (k.1 3 (tn x) + 1)
def oSight (k : Sk) (e : Nat → Int32) (r x : Int32) : R3 := if (hasB (k.2 1) r && hasB (k.2 0) x) = true then (if k.1 12 (tn r) &&& (1 <<< (x &&& 31)) = 0 then (if isSeen k (tn x) = true then (levI k r (tn x), colS (sU (sgt1 k r x) 13 (tn r) (k.1 13 (tn r) ||| (1 <<< (x &&& 31)))) (tn r) (levI k r (tn x)) (k.1 2 (tn x)), e) else (0, sU (sgt1 k r x) 19 1 (k.1 19 1 + 1), e)) else (-3, k, rfN 3 (bcI (k.1 12 (tn r))))) else (-1, k, e)
def oClaim (k : Sk) (e : Nat → Int32) (r x : Int32) : R3 := if (hasB (k.2 1) r && hasB (k.2 0) x) = true then (if k.1 2 (tn x) = -4 then (if k.1 5 (tn r) < 2 * k.1 0 (tn x) then (-3, k, rfN 6 (2 * k.1 0 (tn x) - k.1 5 (tn r))) else (2 * k.1 0 (tn x), sU (sU k 5 (tn r) (k.1 5 (tn r) - 2 * k.1 0 (tn x))) 2 (tn x) r, e)) else (-3, k, rfN 5 (k.1 2 (tn x)))) else (-1, k, e)
def oDrop (k : Sk) (e : Nat → Int32) (x : Int32) : R3 := if hasB (k.2 0) x = true then (if k.1 2 (tn x) = -4 then (-3, k, rfN 7 x) else (k.1 2 (tn x), sU k 2 (tn x) (-4), e)) else (-1, k, e)
def oWish (k : Sk) (e : Nat → Int32) (r x d : Int32) : R3 := if (hasB (k.2 1) r && hasB (k.2 0) x) = true then (if winB d 0 9 = true then (if k.1 13 (tn r) &&& (1 <<< (x &&& 31)) = 0 then (-3, k, rfN 4 (bcI (k.1 13 (tn r)))) else (if nI (k.2 2) < 8 then (nI (k.2 2), addW k r x d, e) else (-3, k, rfN 1 8))) else (-2, k, e)) else (-1, k, e)
def oPay (k : Sk) (e : Nat → Int32) (r c : Int32) : R3 := if hasB (k.2 1) r = true then (if winB c 1 99 = true then (if k.1 5 (tn r) < c then (-3, k, rfN 6 (c - k.1 5 (tn r))) else (if k.1 6 (tn r) < c then (-3, k, rfN 8 (k.1 6 (tn r))) else (k.1 6 (tn r) - c, sU (sU (sU k 5 (tn r) (k.1 5 (tn r) - c)) 9 (tn r) (k.1 9 (tn r) + c)) 6 (tn r) (k.1 6 (tn r) - c), e))) else (-2, k, e)) else (-1, k, e)
def oPound (k : Sk) (e : Nat → Int32) (r : Int32) : R3 := if hasB (k.2 1) r = true then (if 0 < k.1 7 (tn r) then (-3, k, rfN 9 (k.1 7 (tn r))) else (if k.1 6 (tn r) < 10 then (-3, k, rfN 10 (k.1 6 (tn r))) else (if 0 < nI (tA k r (k.2 2)) then (nI (tA k r (k.2 2)), iA k r (k.2 2), e) else (-3, iA k r (k.2 2), rfN 11 (nI (cN (fun z => decide ((iA k r (k.2 2)).1 14 z = r)) ((iA k r (k.2 2)).2 2))))))) else (-1, k, e)
def oRedeem (k : Sk) (e : Nat → Int32) (x : Int32) : R3 := if hasB (k.2 2) x = true then (if isImp k (tn x) = true then (if k.1 5 (wR k (tn x)) < cost k (tn x) then (-3, k, rfN 6 (cost k (tn x) - k.1 5 (wR k (tn x)))) else (cost k (tn x), sU (sU k 5 (wR k (tn x)) (k.1 5 (wR k (tn x)) - cost k (tn x))) 18 (tn x) (-4), e)) else (-3, k, rfN 12 (k.1 17 (tn x)))) else (-1, k, e)
def oStay (k : Sk) (e : Nat → Int32) (r c : Int32) : R3 := if hasB (k.2 1) r = true then (if winB c 0 9 = true then (if k.1 7 (tn r) = c then (-3, k, rfN 2 c) else (k.1 7 (tn r), sU k 7 (tn r) c, e)) else (-2, k, e)) else (-1, k, e)
/-- a wish meets the dawn -/
def stD (k : Sk) (w : Nat) : Bool × Sk := if grB k w = true then (false, sU k 10 (wR k w) (k.1 10 (wR k w) + 1)) else if isImp k w = true then (if k.1 18 w + 1 < 3 then (true, sU k 18 w (k.1 18 w + 1)) else (false, sU (sU k 18 w (k.1 18 w + 1)) 11 (wR k w) (k.1 11 (wR k w) + 1))) else (true, sU k 17 w (k.1 17 w + 1))
def dN (k : Sk) : Nat → Sk × Nat
  | 0 => (k, 0)
  | j + 1 => if (stD (dN k j).1 j).1 = true then (mvW (stD (dN k j).1 j).2 j (dN k j).2, (dN k j).2 + 1) else ((stD (dN k j).1 j).2, (dN k j).2)
def dawnM (k : Sk) : Sk := tC (sC (dN k (k.2 2)).1 2 (dN k (k.2 2)).2) 4
def dawnB (k : Sk) : Sk := bN (dawnM k) ((dawnM k).2 1)
def dawnK (k : Sk) : Sk := sU (dawnB k) 19 0 ((dawnB k).1 19 0 + 1)
def oDawn (k : Sk) : Int32 × Sk := (nI (cN (fun z => grB k z) (k.2 2)), dawnK k)
def sR (k : Sk) (r : Nat) (F : Nat → Int32) : Sk := (fun r' => if r' = r then F else k.1 r', k.2)
def cpS (k q : Sk) : Sk := (fun r => if r ≤ 4 then q.1 r else k.1 r, fun i => if i = 0 then q.2 0 else k.2 i)
def cpR (k q : Sk) : Sk := (fun r => if 5 ≤ r ∧ r ≤ 13 then q.1 r else k.1 r, fun i => if i = 1 then q.2 1 else k.2 i)
def cpW (k q : Sk) : Sk := (fun r => if 14 ≤ r ∧ r ≤ 18 then q.1 r else k.1 r, fun i => if i = 2 then q.2 2 else k.2 i)
theorem sU_self (k : Sk) (r i : Nat) (v : Int32) : (sU k r i v).1 r i = v := by simp [sU, upd]
