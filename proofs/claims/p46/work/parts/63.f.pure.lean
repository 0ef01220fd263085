theorem tC_row (k : Sk) (n : Nat) {q : Nat} (hq : q ≠ 4) : (tC k n).1 q = k.1 q := by
  induction n with
  | zero => rfl
  | succ n ih => show (if q = 4 then _ else (tC k n).1 q) = _; rw [if_neg hq, ih]
def decI (x : Int32) : Int32 := if x - 1 < 0 then 0 else x - 1
theorem tC_4 (k : Sk) (n : Nat) : ∀ g, (tC k n).1 4 g = if g < n then decI (k.1 4 g) else k.1 4 g := by
  induction n with
  | zero => intro g; rfl
  | succ n ih =>
    intro g
    show (if g = n then decI ((tC k n).1 4 n) else (tC k n).1 4 g) = _
    by_cases h9 : g = n
    · subst h9; rw [if_pos rfl, ih, if_neg (Nat.lt_irrefl g), if_pos (Nat.lt_succ_self g)]
    · rw [if_neg h9, ih]
      by_cases h8 : g < n
      · rw [if_pos h8, if_pos (by omega)]
      · rw [if_neg h8, if_neg (by omega)]
theorem decI_n {x : Int32} {M : Nat} (h : x = nI (tn x)) (hM : tn x ≤ M) (h2 : M < 2 ^ 31) : decI x = nI (tn x - 1) := by
  unfold decI
  by_cases h0 : tn x = 0
  · rw [h, h0]; rfl
  · have e : x - 1 = nI (tn x - 1) := by
      have := nI_sub (a := tn x) (b := 1) (by omega)
      rw [← h] at this
      exact this
    rw [e, if_neg (nI_pos (by omega))]
theorem bN_row (k : Sk) (n : Nat) {q : Nat} (hq : q ≠ 7 ∧ q ≠ 12 ∧ q ≠ 13) : (bN k n).1 q = k.1 q := by
  induction n with
  | zero => rfl
  | succ n ih => show (if q = 13 then _ else if q = 12 then _ else if q = 7 then _ else (bN k n).1 q) = _; rw [if_neg hq.2.2, if_neg hq.2.1, if_neg hq.1, ih]
theorem bN_7 (k : Sk) (n : Nat) : ∀ g, (bN k n).1 7 g = if g < n then decI (k.1 7 g) else k.1 7 g := by
  induction n with
  | zero => intro g; rfl
  | succ n ih =>
    intro g
    show (if g = n then decI ((bN k n).1 7 n) else (bN k n).1 7 g) = _
    by_cases h9 : g = n
    · subst h9; rw [if_pos rfl, ih, if_neg (Nat.lt_irrefl g), if_pos (Nat.lt_succ_self g)]
    · rw [if_neg h9, ih]
      by_cases h8 : g < n
      · rw [if_pos h8, if_pos (by omega)]
      · rw [if_neg h8, if_neg (by omega)]
theorem bN_12 (k : Sk) (n : Nat) : ∀ g, (g < n → (bN k n).1 12 g = 0 ∧ (bN k n).1 13 g = 0) := by
  induction n with
  | zero => intro g hg; omega
  | succ n ih =>
    intro g hg
    show (if g = n then (0 : Int32) else (bN k n).1 12 g) = 0 ∧ (if g = n then (0 : Int32) else (bN k n).1 13 g) = 0
    by_cases h9 : g = n
    · rw [if_pos h9, if_pos h9]; exact ⟨rfl, rfl⟩
    · rw [if_neg h9, if_neg h9]; exact ih g (by omega)
/-- the rows behind a dawn -/
theorem dawn_rows {N : Nat} {k : Sk} (h : Inv N k) : (∀ q, q ≠ 4 → q ≠ 7 → q ≠ 12 → q ≠ 13 → q ≠ 19 → (dawnK k).1 q = (dN k (k.2 2)).1.1 q) ∧ (dawnK k).1 19 1 = k.1 19 1 ∧ (∀ g, g < 4 → (dawnK k).1 4 g = decI (k.1 4 g)) ∧ (∀ r, r < k.2 1 → (dawnK k).1 7 r = decI (k.1 7 r) ∧ (dawnK k).1 12 r = 0 ∧ (dawnK k).1 13 r = 0) ∧ (dawnK k).2 0 = k.2 0 ∧ (dawnK k).2 1 = k.2 1 ∧ (dawnK k).2 2 = (dN k (k.2 2)).2 := by
  obtain ⟨i1, i2, i3, i4, i5, i6, i7, i8⟩ := DI_all h (k.2 2) (Nat.le_refl _)
  have e2 : (dawnM k).2 = (sC (dN k (k.2 2)).1 2 (dN k (k.2 2)).2).2 := tC_2 _ 4
  have e1 : (dawnM k).2 1 = k.2 1 := by rw [e2]; show (dN k (k.2 2)).1.2 1 = _; rw [i1]
  have e0 : (dawnM k).2 0 = k.2 0 := by rw [e2]; show (dN k (k.2 2)).1.2 0 = _; rw [i1]
  have eb : (dawnB k).2 = (dawnM k).2 := bN_2 _ _
  have eM : ∀ q, q ≠ 4 → (dawnM k).1 q = (dN k (k.2 2)).1.1 q := fun q hq => tC_row _ 4 hq
  have eB : ∀ q, q ≠ 7 → q ≠ 12 → q ≠ 13 → (dawnB k).1 q = (dawnM k).1 q := fun q h1 h2 h3 => bN_row _ _ ⟨h1, h2, h3⟩
  have eK : ∀ q, q ≠ 19 → (dawnK k).1 q = (dawnB k).1 q := fun q hq => if_neg hq
  refine ⟨fun q h1 h2 h3 h4 h5 => by rw [eK q h5, eB q h2 h3 h4, eM q h1], ?_, fun g hg => ?_, fun r hr => ⟨?_, ?_⟩, ?_, ?_, ?_⟩
  · have e19 : (dawnK k).1 19 1 = (dawnB k).1 19 1 := rfl
    rw [e19, eB 19 (by decide) (by decide) (by decide), eM 19 (by decide), i2 19 (by omega)]
  · rw [eK 4 (by decide), eB 4 (by decide) (by decide) (by decide)]
    show (tC _ 4).1 4 g = _
    rw [tC_4, if_pos hg]
    show decI ((dN k (k.2 2)).1.1 4 g) = _
    rw [i2 4 (by omega)]
  · rw [eK 7 (by decide)]
    show (bN _ _).1 7 r = _
    rw [bN_7, e1, if_pos hr, eM 7 (by decide), i2 7 (by omega)]
  · rw [eK 12 (by decide), eK 13 (by decide)]
    exact bN_12 _ _ r (by rw [e1]; exact hr)
  · show (dawnB k).2 0 = _; rw [eb, e0]
  · show (dawnB k).2 1 = _; rw [eb, e1]
  · show (dawnB k).2 2 = _; rw [eb, e2]; rfl
theorem Inv_dawn {N : Nat} {k : Sk} (h : Inv N k) : Inv (N + 1) (oDawn k).2 := by
  have hO : Ok (dawnK k) := Ok_oCmd k (fun _ => 0) 11 0 0 0 h.1
  have hm := h.mono (Nat.le_succ N)
  obtain ⟨r1, r2, r3, r4, r5, r6, r7⟩ := dawn_rows h
  obtain ⟨i1, i2, i3, i4, i5, i6, i7, i8⟩ := DI_all h (k.2 2) (Nat.le_refl _)
  obtain ⟨-, hc, hb, hcl, hsi, hex, hro, him⟩ := hm
  have s : ∀ q, q < 10 → q ≠ 4 → q ≠ 7 → (dawnK k).1 q = k.1 q := fun q h1 h2 h3 => by rw [r1 q h2 h3 (by omega) (by omega) (by omega), i2 q (by omega)]
  show Inv (N + 1) (dawnK k)
  refine ⟨hO, fun g hg => ?_, fun i hi => ?_, fun i hi => ?_, fun i hi => ?_, ?_, fun r hr => ?_, fun w hw => ?_⟩
  · obtain ⟨c1, c2⟩ := hc g hg
    have c2 : tn (k.1 4 g) ≤ 9 := c2
    have e := decI_n (x := k.1 4 g) c1 c2 (by decide)
    have e2 : cl (dawnK k) g = tn (k.1 4 g) - 1 := by unfold cl; rw [r3 g hg, e]; exact nI_clamp (by omega)
    rw [e2, r3 g hg, e]
    exact ⟨rfl, by omega⟩
  · rw [r5] at hi; rw [s 0 (by decide) (by decide) (by decide)]; exact hb i hi
  · rw [r5] at hi; rw [s 2 (by decide) (by decide) (by decide), r6]; exact hcl i hi
  · rw [r5] at hi; rw [s 3 (by decide) (by decide) (by decide)]; exact hsi i hi
  · rw [r2, r5, s 3 (by decide) (by decide) (by decide)]; exact hex
  · rw [r6] at hr
    obtain ⟨d5, d6, d7, d8, d9⟩ := hro r hr
    obtain ⟨e7, e12, e13⟩ := r4 r hr
    rw [s 5 (by decide) (by decide) (by decide), s 6 (by decide) (by decide) (by decide), s 8 (by decide) (by decide) (by decide), s 9 (by decide) (by decide) (by decide), e7, e12, e13, decI_n d7.1 d7.2 (by decide), tn_nI (by omega)]
    exact ⟨d5, d6, ⟨rfl, by omega⟩, d8, 0, 0, by decide, by decide, rfl, rfl, rfl⟩
  · rw [r7] at hw
    rw [r1 18 (by decide) (by decide) (by decide) (by decide) (by decide)]
    exact i8 w hw
theorem dawn_f {N : Nat} {k : Sk} (h : Inv N k) (hN : N ≤ 1000000) (k' : Sk) (hk : k' = (oDawn k).2) :
    nI (k'.2 2) = nI (k.2 2) - nI (cN (fun z => grB k z) (k.2 2)) - nI (cN (las k) (k.2 2)) ∧ accV k' 3 = accV k 3 - nI (cN (las k) (k.2 2)) ∧ sI (k'.1 11) (k'.2 1) = sI (k.1 11) (k.2 1) + nI (cN (las k) (k.2 2)) ∧ k'.2 1 = k.2 1 ∧ ∀ r, r < k'.2 1 → k'.1 12 r = 0 ∧ k'.1 13 r = 0 := by
  obtain ⟨r1, r2, r3, r4, r5, r6, r7⟩ := dawn_rows h
  obtain ⟨i1, i2, i3, i4, i5, i6, i7, i8⟩ := DI_all h (k.2 2) (Nat.le_refl _)
  have hk : k' = dawnK k := hk
  rw [hk]
  refine ⟨?_, ?_, ?_, r6, fun r hr => (r4 r (by rw [← r6]; exact hr)).2⟩
  · rw [r7]
    have : nI ((dN k (k.2 2)).2 + cN (fun w => grB k w) (k.2 2) + cN (las k) (k.2 2)) = nI (k.2 2) := by rw [i5]
    rw [← nI_add, ← nI_add] at this
    rw [← this]
    grind
  · have a1 : ∀ q : Sk, accV q 3 = nI (cN (fun w => isImp q w) (q.2 2)) := fun q => (cN_not (fun z => decide (q.1 18 z = -4)) (q.2 2)).symm
    rw [a1, a1, r7]
    have e : cN (fun w => isImp (dawnK k) w) (dN k (k.2 2)).2 = cN (fun w => isImp (dN k (k.2 2)).1 w) (dN k (k.2 2)).2 := cN_ext _ (fun w _ => by unfold isImp; rw [r1 18 (by decide) (by decide) (by decide) (by decide) (by decide)])
    rw [e]
    have := congrArg nI i6
    rw [← nI_add] at this
    rw [← this]
    grind
  · rw [r6, r1 11 (by decide) (by decide) (by decide) (by decide) (by decide)]
    exact i7
/-! impounding and redeeming, as the law sees them; what a command answers -/
def poB (k : Sk) (r : Nat) : Bool := decide (k.1 7 r = 0) && (decide (10 ≤ k.1 6 r) && decide (0 < roofV k r 2 - roofV k r 3))
theorem free_n {N : Nat} {k : Sk} (h : Inv N k) (r : Nat) : roofV k r 2 - roofV k r 3 = nI (cN (frB k (nI r)) (k.2 2)) := by
  have e2 : roofV k r 2 = nI (cN (ownB k r) (k.2 2)) := rfl
  rw [e2, held_bc h.1 r]
  have hs : cN (heldB k r) (k.2 2) + cN (frB k (nI r)) (k.2 2) = cN (ownB k r) (k.2 2) := by
    rw [cN_su, cN_su, cN_su, ← suN_add]
    refine suN_ext _ (fun w _ => ?_)
    unfold heldB frB ownB
    cases decide (k.1 14 w = nI r) <;> cases isImp k w <;> rfl
  rw [← hs, ← nI_add]
  grind
theorem oPound_eq {k : Sk} {r : Nat} (hr : r < k.2 1) (h1 : k.2 1 < 1000) (E : Nat → Int32) : oPound k E (nI r) = if 0 < k.1 7 r then (-3, k, rfN 9 (k.1 7 r)) else (if k.1 6 r < 10 then (-3, k, rfN 10 (k.1 6 r)) else (if 0 < nI (tA k (nI r) (k.2 2)) then (nI (tA k (nI r) (k.2 2)), iA k (nI r) (k.2 2), E) else (-3, iA k (nI r) (k.2 2), rfN 11 (nI (cN (fun z => decide ((iA k (nI r) (k.2 2)).1 14 z = nI r)) ((iA k (nI r) (k.2 2)).2 2)))))) := by
  unfold oPound
  rw [hasB_nI hr h1, tn_nI (show r < 2 ^ 31 by omega)]
  rfl
theorem pound_f {N : Nat} {k : Sk} (h : Inv N k) (hN : N ≤ 1000000) (E : Nat → Int32) {r : Nat} (hr : r < k.2 1) (R : R3) (hR : R = oCmd k E 8 (nI r) 0 0) :
    (R.1 = -3 ∧ poB k r = false ∧ R.2.1 = k) ∨ (¬ R.1 < 0 ∧ poB k r = true ∧ R.1 = roofV k r 2 - roofV k r 3 ∧ roofV R.2.1 r 3 = roofV R.2.1 r 2 ∧ R.2.1.2 = k.2) := by
  have hO2 := h.1.2.1
  have hO3 := h.1.2.2.1
  have e : oCmd k E 8 (nI r) 0 0 = oPound k E (nI r) := rfl
  rw [e, oPound_eq hr (by omega)] at hR
  obtain ⟨-, -, d7, -⟩ := h.2.2.2.2.2.2.1 r hr
  have hfree := free_n h r
  have hta := tA_n k (nI r) (k.2 2)
  have hle := cN_le (frB k (nI r)) (k.2 2)
  by_cases h1 : 0 < k.1 7 r
  · rw [if_pos h1] at hR
    refine Or.inl ⟨by rw [hR], ?_, by rw [hR]⟩
    unfold poB
    rw [decide_eq_false (fun h9 => by rw [h9] at h1; exact absurd h1 (by decide))]
    rfl
  · rw [if_neg h1] at hR
    have h7 : k.1 7 r = 0 := by
      rw [d7.1] at h1 ⊢
      by_cases h9 : tn (k.1 7 r) = 0
      · rw [h9]; rfl
      · exact absurd (nI_lt (a := 0) (by omega) (by omega)) h1
    by_cases h2 : k.1 6 r < 10
    · rw [if_pos h2] at hR
      refine Or.inl ⟨by rw [hR], ?_, by rw [hR]⟩
      unfold poB
      rw [decide_eq_false (p := 10 ≤ k.1 6 r) (Int32.not_le.mpr h2), Bool.false_and, Bool.and_false]
    · rw [if_neg h2] at hR
      by_cases h3 : 0 < nI (tA k (nI r) (k.2 2))
      · rw [if_pos h3] at hR
        refine Or.inr ⟨by rw [hR]; exact nI_pos (by omega), ?_, by rw [hR, hfree, ← hta], ?_, by rw [hR]; exact iA_2 _ _ _⟩
        · unfold poB
          rw [decide_eq_true h7, decide_eq_true (Int32.not_lt.mp h2), hfree, ← hta, decide_eq_true h3]
          rfl
        · rw [hR]
          show roofV (iA k (nI r) (k.2 2)) r 3 = roofV (iA k (nI r) (k.2 2)) r 2
          rw [held_bc (Ok_iA h.1 _ _) r]
          show _ = nI (cN (ownB (iA k (nI r) (k.2 2)) r) ((iA k (nI r) (k.2 2)).2 2))
          rw [congrFun (iA_2 k (nI r) (k.2 2)) 2]
          congr 1
          refine cN_ext _ (fun w hw => ?_)
          unfold heldB ownB isImp
          rw [iA_row k (nI r) (k.2 2) (by decide), iA_18]
          unfold frB isImp
          by_cases h9 : k.1 14 w = nI r
          · by_cases h8 : k.1 18 w = -4
            · simp [h9, h8, hw]
            · simp [h9, h8, hw]
          · simp [h9]
      · rw [if_neg h3] at hR
        have h0 : tA k (nI r) (k.2 2) = 0 := by
          by_cases h9 : tA k (nI r) (k.2 2) = 0
          · exact h9
          · exact absurd (nI_lt (a := 0) (by omega) (by omega)) h3
        refine Or.inl ⟨by rw [hR], ?_, by rw [hR]; exact iA_same _ _ _ h0⟩
        unfold poB
        rw [hfree, ← hta, decide_eq_false h3, Bool.and_false, Bool.and_false]
theorem redeem_f {N : Nat} {k : Sk} (h : Inv N k) (hN : N ≤ 1000000) (E : Nat → Int32) {w : Nat} (hw : w < k.2 2) (h1 : ¬ wishV k w 5 = -4) (h2 : wishV k w 5 ≤ k.1 5 (wR k w)) (R : R3) (hR : R = oCmd k E 9 (nI w) 0 0) :
    ¬ R.1 < 0 ∧ R.1 = wishV k w 5 ∧ R.2.1.1 5 (wR k w) = k.1 5 (wR k w) - wishV k w 5 ∧ R.2.1.1 18 w = -4 ∧ R.2.1.2 = k.2 ∧ R.2.1.1 14 = k.1 14 := by
  have hO3 := h.1.2.2.1
  have hi : isImp k w = true := by
    cases hi : isImp k w with
    | true => rfl
    | false => exact absurd (by show (if isImp k w = true then cost k w else -4) = -4; rw [hi]; rfl) h1
  have e5 : wishV k w 5 = cost k w := by show (if isImp k w = true then cost k w else -4) = _; rw [if_pos hi]
  obtain ⟨c1, c2⟩ := h.cost hw hi
  have e : oCmd k E 9 (nI w) 0 0 = oRedeem k E (nI w) := rfl
  rw [e] at hR
  unfold oRedeem at hR
  rw [hasB_nI hw (by omega), tn_nI (show w < 2 ^ 31 by omega), if_pos rfl, if_pos hi, if_neg (by rw [← e5]; exact Int32.not_lt.mpr h2)] at hR
  rw [hR, e5]
  refine ⟨by show ¬ cost k w < 0; rw [c1]; exact nI_pos (by omega), rfl, ?_, ?_, rfl, rfl⟩
  · show (if wR k w = wR k w then _ else _) = _
    rw [if_pos rfl]
  · show (if w = w then (-4 : Int32) else _) = _
    rw [if_pos rfl]
def Ret (k : Sk) (R : R3) : Prop := ((R.1 = -1 ∨ R.1 = -2 ∨ R.1 = -3 ∧ 0 < R.2.2 0) ∧ R.2.1 = k) ∨ ¬ R.1 < 0
theorem ret1 (k : Sk) (E : Nat → Int32) : Ret k (-1, k, E) := Or.inl ⟨Or.inl rfl, rfl⟩
theorem ret2 (k : Sk) (E : Nat → Int32) : Ret k (-2, k, E) := Or.inl ⟨Or.inr (Or.inl rfl), rfl⟩
theorem ret3 (k : Sk) {r : Int32} (d : Int32) (hr : 0 < r) : Ret k (-3, k, rfN r d) := Or.inl ⟨Or.inr (Or.inr ⟨rfl, hr⟩), rfl⟩
theorem retn {k k' : Sk} {E : Nat → Int32} {n : Nat} (hn : n < 2 ^ 31) : Ret k (nI n, k', E) := Or.inr (nI_pos hn)
theorem retx {k k' : Sk} {E : Nat → Int32} {x : Int32} (h : x = nI (tn x)) : Ret k (x, k', E) := Or.inr (by show ¬ x < 0; rw [h]; exact nI_pos (tn_lt x))
theorem oCmd_ret {N : Nat} {k : Sk} (h : Inv N k) (hN : N + 1 ≤ 1000000) (E : Nat → Int32) (cd : Nat) (a b c : Int32) : (((oCmd k E cd a b c).1 = -1 ∨ (oCmd k E cd a b c).1 = -2 ∨ (oCmd k E cd a b c).1 = -3 ∧ 0 < (oCmd k E cd a b c).2.2 0) ∧ (oCmd k E cd a b c).2.1 = k) ∨ ¬ (oCmd k E cd a b c).1 < 0 := by
  show Ret k (oCmd k E cd a b c)
  obtain ⟨hO, hc, hb, hcl, hsi, hex, hro, him⟩ := id h
  have hO1 := hO.1
  have hO2 := hO.2.1
  have hO3 := hO.2.2.1
  match cd with
  | 0 =>
    show Ret k (oStar k E a b)
    unfold oStar
    split
    · split
      · split
        · exact retn (by omega)
        · exact ret3 k _ (by decide)
      · exact ret2 k E
    · exact ret1 k E
  | 1 =>
    show Ret k (oRoof k E a)
    unfold oRoof
    split
    · split
      · exact retn (by omega)
      · exact ret3 k _ (by decide)
    · exact ret2 k E
  | 2 =>
    show Ret k (oCloud k E a b)
    unfold oCloud
    by_cases h1 : winB a 0 3 = true
    · rw [if_pos h1]
      split
      · split
        · exact ret3 k _ (by decide)
        · exact retx (hc (tn a) (winB_tn h1).2).1
      · exact ret2 k E
    · rw [if_neg h1]; exact ret1 k E
  | 3 =>
    show Ret k (oSight k E a b)
    by_cases h1 : (hasB (k.2 1) a && hasB (k.2 0) b) = true
    · obtain ⟨⟨hr1, hr2⟩, hx1, hx2⟩ := hasB2 h1 (by omega) (by omega)
      rw [hr1, hx1, oSight_eq hr2 hx2 (by omega) (by omega)]
      split
      · split
        · obtain ⟨v, hv1, hv2⟩ := lev_n h (nI (tn a)) hx2
          rw [hv1]; exact retn (by omega)
        · exact retn (n := 0) (by decide)
      · exact ret3 k _ (by decide)
    · unfold oSight
      rw [if_neg h1]; exact ret1 k E
  | 4 =>
    show Ret k (oClaim k E a b)
    unfold oClaim
    by_cases h1 : (hasB (k.2 1) a && hasB (k.2 0) b) = true
    · obtain ⟨⟨hr1, hr2⟩, hx1, hx2⟩ := hasB2 h1 (by omega) (by omega)
      rw [if_pos h1]
      split
      · split
        · exact ret3 k _ (by decide)
        · obtain ⟨b1, b2, b3⟩ := hb (tn b) hx2
          have e2 : 2 * k.1 0 (tn b) = nI (2 * tn (k.1 0 (tn b))) := by
            have : nI (2 * tn (k.1 0 (tn b))) = nI (tn (k.1 0 (tn b))) + nI (tn (k.1 0 (tn b))) := by rw [nI_add]; congr 1; omega
            rw [this, ← b1]
            grind
          rw [e2]
          exact retn (by omega)
      · exact ret3 k _ (by decide)
    · rw [if_neg h1]; exact ret1 k E
  | 5 =>
    show Ret k (oDrop k E a)
    unfold oDrop
    by_cases h1 : hasB (k.2 0) a = true
    · rw [if_pos h1]
      by_cases h2 : k.1 2 (tn a) = -4
      · rw [if_pos h2]; exact ret3 k _ (by decide)
      · rw [if_neg h2]; exact retx ((hcl (tn a) (hasB_tn h1 (by omega)).2).resolve_left h2).1
    · rw [if_neg h1]; exact ret1 k E
  | 6 =>
    show Ret k (oWish k E a b c)
    unfold oWish
    split
    · split
      · split
        · exact ret3 k _ (by decide)
        · split
          · exact retn (by omega)
          · exact ret3 k _ (by decide)
      · exact ret2 k E
    · exact ret1 k E
  | 7 =>
    show Ret k (oPay k E a b)
    unfold oPay
    by_cases h1 : hasB (k.2 1) a = true
    · rw [if_pos h1]
      by_cases h2 : winB b 1 99 = true
      · rw [if_pos h2]
        have hc9 := win_nI (a := 1) (b := 99) h2 (by decide) (by decide)
        split
        · exact ret3 k _ (by decide)
        · by_cases h4 : k.1 6 (tn a) < b
          · rw [if_pos h4]; exact ret3 k _ (by decide)
          · rw [if_neg h4]
            obtain ⟨-, d6, -⟩ := hro (tn a) (hasB_tn h1 (by omega)).2
            rw [d6.1, hc9.1] at h4
            have h4 : ¬ tn (k.1 6 (tn a)) < tn b := fun h9 => h4 (nI_lt h9 (by omega))
            have e : k.1 6 (tn a) - b = nI (tn (k.1 6 (tn a)) - tn b) := by
              rw [← nI_sub (by omega), ← d6.1, ← hc9.1]
            rw [e]
            exact retn (by have := tn_lt (k.1 6 (tn a)); omega)
      · rw [if_neg h2]; exact ret2 k E
    · rw [if_neg h1]; exact ret1 k E
  | 8 =>
    show Ret k (oPound k E a)
    by_cases h1 : hasB (k.2 1) a = true
    · obtain ⟨hr1, hr2⟩ := hasB_tn h1 (by omega)
      rw [hr1, oPound_eq hr2 (by omega)]
      have hta := tA_n k (nI (tn a)) (k.2 2)
      have hle := cN_le (frB k (nI (tn a))) (k.2 2)
      split
      · exact ret3 k _ (by decide)
      · split
        · exact ret3 k _ (by decide)
        · by_cases h3 : 0 < nI (tA k (nI (tn a)) (k.2 2))
          · rw [if_pos h3]; exact retn (by omega)
          · rw [if_neg h3]
            have h0 : tA k (nI (tn a)) (k.2 2) = 0 := by
              by_cases h9 : tA k (nI (tn a)) (k.2 2) = 0
              · exact h9
              · exact absurd (nI_lt (a := 0) (by omega) (by omega)) h3
            rw [iA_same _ _ _ h0]
            exact ret3 k _ (by decide)
    · unfold oPound
      rw [if_neg h1]; exact ret1 k E
  | 9 =>
    show Ret k (oRedeem k E a)
    unfold oRedeem
    by_cases h1 : hasB (k.2 2) a = true
    · rw [if_pos h1]
      by_cases h2 : isImp k (tn a) = true
      · rw [if_pos h2]
        split
        · exact ret3 k _ (by decide)
        · exact retx (h.cost (hasB_tn h1 (by omega)).2 h2).1
      · rw [if_neg h2]; exact ret3 k _ (by decide)
    · rw [if_neg h1]; exact ret1 k E
  | 10 =>
    show Ret k (oStay k E a b)
    unfold oStay
    by_cases h1 : hasB (k.2 1) a = true
    · rw [if_pos h1]
      split
      · split
        · exact ret3 k _ (by decide)
        · exact retx (hro (tn a) (hasB_tn h1 (by omega)).2).2.2.1.1
      · exact ret2 k E
    · rw [if_neg h1]; exact ret1 k E
  | n + 11 =>
    show Ret k ((oDawn k).1, (oDawn k).2, E)
    have := cN_le (fun z => grB k z) (k.2 2)
    exact retn (by omega)
theorem Inv_oCmd {N : Nat} {k : Sk} (h : Inv N k) (hN : N + 1 ≤ 1000000) (E : Nat → Int32) (cd : Nat) (a b c : Int32) : Inv (N + 1) (oCmd k E cd a b c).2.1 := by
  match cd with
  | 0 => exact Inv_star h E a b
  | 1 => exact Inv_roof h E a
  | 2 => exact Inv_cloud h E a b
  | 3 => exact Inv_sight h hN E a b
  | 4 => exact Inv_claim h hN E a b
  | 5 => exact Inv_drop h E a
  | 6 => exact Inv_wish h E a b c
  | 7 => exact Inv_pay h hN E a b
  | 8 => exact Inv_pound h E a
  | 9 => exact Inv_redeem h hN E a
  | 10 => exact Inv_stay h E a b
  | n + 11 => exact Inv_dawn h
