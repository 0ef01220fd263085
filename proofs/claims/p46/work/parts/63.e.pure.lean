/-! a dawn -/
theorem sI_up (F : Nat → Int32) : ∀ (n i : Nat), i < n → sI (fun z => if z = i then F i + 1 else F z) n = sI F n + 1 := by
  intro n
  induction n with
  | zero => intro i hi; omega
  | succ n ih =>
    intro i hi
    show sI _ n + (if n = i then F i + 1 else F n) = sI F n + F n + 1
    by_cases h9 : n = i
    · subst h9
      rw [if_pos rfl]
      have : ∀ m, m ≤ n → sI (fun z => if z = n then F n + 1 else F z) m = sI F m := by
        intro m
        induction m with
        | zero => intro _; rfl
        | succ m ih2 =>
          intro hm
          show sI _ m + (if m = n then F n + 1 else F m) = sI F m + F m
          rw [ih2 (by omega), if_neg (by omega)]
      rw [this n (Nat.le_refl n)]
      grind
    · rw [if_neg h9, ih i (by omega)]
      grind
theorem sI_ext {F G : Nat → Int32} (n : Nat) (h : ∀ i, i < n → F i = G i) : sI F n = sI G n := by
  induction n with
  | zero => rfl
  | succ n ih =>
    show sI F n + F n = sI G n + G n
    rw [ih (fun i hi => h i (by omega)), h n (by omega)]
/-- the last night of an impounded wish -/
def las (k : Sk) (w : Nat) : Bool := decide (k.1 18 w = 2)
/-- what the dawn's walk over the wishes has done behind j of them -/
def DI (k : Sk) (j : Nat) : Prop :=
  (dN k j).1.2 = k.2 ∧ (∀ q, q < 10 ∨ q = 12 ∨ q = 13 ∨ q = 19 → (dN k j).1.1 q = k.1 q) ∧ (∀ q, 14 ≤ q → q ≤ 18 → ∀ w, j ≤ w → (dN k j).1.1 q w = k.1 q w) ∧ (dN k j).2 ≤ j ∧
  (dN k j).2 + cN (fun w => grB k w) j + cN (las k) j = j ∧ cN (fun w => isImp (dN k j).1 w) (dN k j).2 + cN (las k) j = cN (fun w => isImp k w) j ∧ sI ((dN k j).1.1 11) (k.2 1) = sI (k.1 11) (k.2 1) + nI (cN (las k) j) ∧
  (∀ w, w < (dN k j).2 → (dN k j).1.1 18 w = -4 ∨ ((dN k j).1.1 18 w = nI (tn ((dN k j).1.1 18 w)) ∧ tn ((dN k j).1.1 18 w) < 3))
theorem cN_S (p : Nat → Bool) (n : Nat) : cN p (n + 1) = cN p n + (if p n then 1 else 0) := rfl
theorem DI_all {N : Nat} {k : Sk} (h : Inv N k) : ∀ j, j ≤ k.2 2 → DI k j := by
  intro j
  induction j with
  | zero =>
    intro _
    exact ⟨rfl, fun _ _ => rfl, fun _ _ _ _ _ => rfl, Nat.le_refl 0, rfl, rfl, (Int32.add_zero _).symm, fun w hw => absurd hw (Nat.not_lt_zero w)⟩
  | succ j ih =>
    intro hj
    obtain ⟨i1, i2, i3, i4, i5, i6, i7, i8⟩ := ih (by omega)
    have hOK := Ok_dN h.1 j (by omega)
    have him := h.2.2.2.2.2.2.2 j (by omega)
    have hdef : dN k (j + 1) = if (stD (dN k j).1 j).1 = true then (mvW (stD (dN k j).1 j).2 j (dN k j).2, (dN k j).2 + 1) else ((stD (dN k j).1 j).2, (dN k j).2) := rfl
    generalize hK : (dN k j).1 = K at *
    generalize hc : (dN k j).2 = c at *
    have e18 : K.1 18 j = k.1 18 j := i3 18 (by decide) (by decide) j (Nat.le_refl j)
    have e15 : K.1 15 j = k.1 15 j := i3 15 (by decide) (by decide) j (Nat.le_refl j)
    have e14 : K.1 14 j = k.1 14 j := i3 14 (by decide) (by decide) j (Nat.le_refl j)
    have eI : isImp K j = isImp k j := by unfold isImp; rw [e18]
    have eG : grB K j = grB k j := by
      unfold grB isSeen sN wS
      rw [eI, e15, i2 4 (by omega), i2 1 (by omega), i2 0 (by omega)]
    have eR : wR K j = wR k j := by unfold wR; rw [e14]
    have hR : wR k j < k.2 1 := (h.1.2.2.2.2.1 j (by omega)).2
    unfold stD at hdef
    rw [eG, eI, eR, e18] at hdef
    by_cases hg : grB k j = true
    · -- granted
      rw [if_pos hg] at hdef
      dsimp only at hdef
      rw [if_neg Bool.false_ne_true] at hdef
      have hni : isImp k j = false := by unfold grB at hg; simp at hg; exact hg.1
      have hnl : las k j = false := by
        unfold isImp at hni
        unfold las
        simp at hni
        rw [hni]
        rfl
      unfold DI
      rw [hdef]
      refine ⟨i1, fun q hq => ?_, fun q h1 h2 w hw => ?_, Nat.le_succ_of_le i4, ?_, ?_, ?_, fun w hw => i8 w hw⟩
      · show (if q = 10 then _ else K.1 q) = _
        rw [if_neg (by omega)]; exact i2 q hq
      · show (if q = 10 then _ else K.1 q) w = _
        rw [if_neg (by omega)]; exact i3 q h1 h2 w (by omega)
      · rw [cN_S, cN_S, hg, hnl]; show c + (_ + 1) + (_ + 0) = _; omega
      · rw [cN_S, cN_S, hni, hnl]; exact i6
      · rw [cN_S, hnl]; exact i7
    · rw [if_neg hg] at hdef
      have hg0 : grB k j = false := by simpa using hg
      by_cases hi : isImp k j = true
      · rw [if_pos hi] at hdef
        have h18 := him.resolve_left (fun h9 => by unfold isImp at hi; rw [h9] at hi; simp at hi)
        obtain ⟨n1, n2⟩ := nI_tn1 h18.1 (Nat.le_of_lt h18.2) (by decide)
        by_cases hl : k.1 18 j + 1 < 3
        · -- stays impounded
          rw [if_pos hl] at hdef
          dsimp only at hdef
          rw [if_pos rfl] at hdef
          have hl2 : tn (k.1 18 j) + 1 < 3 := by rw [n1] at hl; exact (nI_ltI (a := tn (k.1 18 j) + 1) (b := 3) (by omega) (by decide)).mp hl
          have hnl : las k j = false := by
            unfold las
            refine decide_eq_false (fun h9 => ?_)
            rw [h9] at hl2
            exact absurd hl2 (by decide)
          have r18 : ∀ w, (mvW (sU K 18 j (k.1 18 j + 1)) j c).1 18 w = if w = c then k.1 18 j + 1 else if w = j then k.1 18 j + 1 else K.1 18 w := fun w => by
            show (if w = c then (if j = j then k.1 18 j + 1 else K.1 18 j) else (if w = j then k.1 18 j + 1 else K.1 18 w)) = _
            rw [if_pos (rfl : j = j)]
          unfold DI
          rw [hdef]
          refine ⟨i1, fun q hq => ?_, fun q h1 h2 w hw => ?_, Nat.succ_le_succ i4, ?_, ?_, ?_, fun w hw => ?_⟩
          · rw [← i2 q hq]
            rcases hq with hq | hq | hq | hq
            · show (if q = 18 then _ else if q = 17 then _ else if q = 16 then _ else if q = 15 then _ else if q = 14 then _ else if q = 18 then _ else K.1 q) = _
              rw [if_neg (by omega), if_neg (by omega), if_neg (by omega), if_neg (by omega), if_neg (by omega), if_neg (by omega)]
            · subst hq; rfl
            · subst hq; rfl
            · subst hq; rfl
          · have e := i3 q h1 h2 w (by omega)
            have hq5 : q = 14 ∨ q = 15 ∨ q = 16 ∨ q = 17 ∨ q = 18 := by omega
            rcases hq5 with rfl | rfl | rfl | rfl | rfl
            · show (if w = c then _ else K.1 14 w) = _; rw [if_neg (by omega)]; exact e
            · show (if w = c then _ else K.1 15 w) = _; rw [if_neg (by omega)]; exact e
            · show (if w = c then _ else K.1 16 w) = _; rw [if_neg (by omega)]; exact e
            · show (if w = c then _ else K.1 17 w) = _; rw [if_neg (by omega)]; exact e
            · rw [r18 w, if_neg (by omega), if_neg (by omega)]; exact e
          · rw [cN_S, cN_S, hg0, hnl]; show c + 1 + (_ + 0) + (_ + 0) = _; omega
          · show cN (fun w => isImp (mvW (sU K 18 j (k.1 18 j + 1)) j c) w) (c + 1) + _ = _
            rw [cN_S, cN_S, cN_S, hi, hnl, cN_ext (q := fun w => isImp K w) c (fun w hw => by unfold isImp; rw [r18 w, if_neg (by omega), if_neg (by omega)])]
            have : isImp (mvW (sU K 18 j (k.1 18 j + 1)) j c) c = true := by
              unfold isImp
              rw [r18 c, if_pos rfl, n1, decide_eq_false (ne_m4 (by omega))]
              rfl
            rw [this]
            show _ + 1 + (_ + 0) = _ + 1
            omega
          · rw [cN_S, hnl]; exact i7
          · rw [r18 w]
            have hw : w < c + 1 := hw
            by_cases h9 : w = c
            · rw [if_pos h9]; exact Or.inr ⟨by rw [n2]; exact n1, by rw [n2]; exact hl2⟩
            · rw [if_neg h9, if_neg (by omega)]; exact i8 w (by omega)
        · -- forfeited
          rw [if_neg hl] at hdef
          dsimp only at hdef
          rw [if_neg Bool.false_ne_true] at hdef
          have hl2 : tn (k.1 18 j) = 2 := by
            have : ¬ tn (k.1 18 j) + 1 < 3 := fun h9 => hl (by rw [n1]; exact nI_lt (b := 3) h9 (by decide))
            omega
          have hla : las k j = true := by unfold las; rw [h18.1, hl2]; rfl
          unfold DI
          rw [hdef]
          refine ⟨i1, fun q hq => ?_, fun q h1 h2 w hw => ?_, Nat.le_succ_of_le i4, ?_, ?_, ?_, fun w hw => ?_⟩
          · show (if q = 11 then _ else if q = 18 then _ else K.1 q) = _
            rw [if_neg (by omega), if_neg (by omega)]; exact i2 q hq
          · have e := i3 q h1 h2 w (by omega)
            by_cases h9 : q = 18
            · subst h9
              show (if w = j then _ else K.1 18 w) = _
              rw [if_neg (by omega)]; exact e
            · show (if q = 11 then _ else if q = 18 then _ else K.1 q) w = _
              rw [if_neg (by omega), if_neg h9]; exact e
          · rw [cN_S, cN_S, hg0, hla]; show c + (_ + 0) + (_ + 1) = _; omega
          · rw [cN_S, cN_S, hi, hla, cN_ext (q := fun w => isImp K w) c (fun w hw => by
              unfold isImp
              show (!decide ((if w = j then _ else K.1 18 w) = -4)) = _
              rw [if_neg (by omega)])]
            show _ + (_ + 1) = _ + 1
            omega
          · show sI (fun z => if z = wR k j then (sU K 18 j (k.1 18 j + 1)).1 11 (wR k j) + 1 else (sU K 18 j (k.1 18 j + 1)).1 11 z) (k.2 1) = _
            rw [sI_up _ _ _ hR, cN_S, hla]
            show sI (K.1 11) (k.2 1) + 1 = _
            rw [i7]
            show _ = _ + nI (cN (las k) j + 1)
            rw [← nI_1]
            grind
          · show (if w = j then _ else K.1 18 w) = -4 ∨ ((if w = j then _ else K.1 18 w) = nI (tn (if w = j then _ else K.1 18 w)) ∧ tn (if w = j then _ else K.1 18 w) < 3)
            have hw : w < c := hw
            rw [if_neg (by omega)]
            exact i8 w hw
      · -- an older wish
        rw [if_neg hi] at hdef
        dsimp only at hdef
        rw [if_pos rfl] at hdef
        have hi0 : isImp k j = false := by simpa using hi
        have h4 : k.1 18 j = -4 := by unfold isImp at hi0; simp at hi0; exact hi0
        have hnl : las k j = false := by unfold las; rw [h4]; rfl
        have r18 : ∀ w, (mvW (sU K 17 j (K.1 17 j + 1)) j c).1 18 w = if w = c then K.1 18 j else K.1 18 w := fun w => rfl
        unfold DI
        rw [hdef]
        refine ⟨i1, fun q hq => ?_, fun q h1 h2 w hw => ?_, Nat.succ_le_succ i4, ?_, ?_, ?_, fun w hw => ?_⟩
        · rw [← i2 q hq]
          rcases hq with hq | hq | hq | hq
          · show (if q = 18 then _ else if q = 17 then _ else if q = 16 then _ else if q = 15 then _ else if q = 14 then _ else if q = 17 then _ else K.1 q) = _
            rw [if_neg (by omega), if_neg (by omega), if_neg (by omega), if_neg (by omega), if_neg (by omega), if_neg (by omega)]
          · subst hq; rfl
          · subst hq; rfl
          · subst hq; rfl
        · have e := i3 q h1 h2 w (by omega)
          have hq5 : q = 14 ∨ q = 15 ∨ q = 16 ∨ q = 17 ∨ q = 18 := by omega
          rcases hq5 with rfl | rfl | rfl | rfl | rfl
          · show (if w = c then _ else K.1 14 w) = _; rw [if_neg (by omega)]; exact e
          · show (if w = c then _ else K.1 15 w) = _; rw [if_neg (by omega)]; exact e
          · show (if w = c then _ else K.1 16 w) = _; rw [if_neg (by omega)]; exact e
          · show (if w = c then _ else (if w = j then _ else K.1 17 w)) = _; rw [if_neg (by omega), if_neg (by omega)]; exact e
          · rw [r18 w, if_neg (by omega)]; exact e
        · rw [cN_S, cN_S, hg0, hnl]; show c + 1 + (_ + 0) + (_ + 0) = _; omega
        · show cN (fun w => isImp (mvW (sU K 17 j (K.1 17 j + 1)) j c) w) (c + 1) + _ = _
          rw [cN_S, cN_S, cN_S, hi0, hnl, cN_ext (q := fun w => isImp K w) c (fun w hw => by unfold isImp; rw [r18 w, if_neg (by omega)])]
          have : isImp (mvW (sU K 17 j (K.1 17 j + 1)) j c) c = false := by
            unfold isImp
            rw [r18 c, if_pos rfl, e18, h4]
            rfl
          rw [this]
          show _ + 0 + (_ + 0) = _ + 0
          omega
        · rw [cN_S, hnl]; exact i7
        · rw [r18 w]
          have hw : w < c + 1 := hw
          by_cases h9 : w = c
          · rw [if_pos h9, e18]; exact Or.inl h4
          · rw [if_neg h9]; exact i8 w (by omega)
