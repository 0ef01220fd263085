/-! the commands, one by one -/
theorem sU_at (k : Sk) (r i : Nat) (v : Int32) (j : Nat) : (sU k r i v).1 r j = if j = i then v else k.1 r j := by
  show (if r = r then upd (k.1 r) i v else k.1 r) j = _
  rw [if_pos rfl]
  rfl
theorem tn_0 : tn 0 = 0 := rfl
theorem tn_m4 : tn (-4) = 0 := rfl
theorem win_nI {x : Int32} {a b : Nat} (h : winB x (nI a) (nI b) = true) (ha : a < 2 ^ 31) (hb : b < 2 ^ 31) : x = nI (tn x) ∧ a ≤ tn x ∧ tn x ≤ b := by
  have h1 := of_decide_eq_true h
  have h0 : ¬ x < 0 := Int32.not_lt.mpr (Int32.le_trans (nI_pos' ha) h1.1)
  obtain ⟨j, hj, rfl⟩ := nI_of h0
  rw [tn_nI hj]
  exact ⟨rfl, (nI_leI ha hj).mp h1.1, (nI_leI hj hb).mp h1.2⟩
theorem suN_mono {F G : Nat → Nat} (n : Nat) (h : ∀ i, i < n → F i ≤ G i) : suN F n ≤ suN G n := by
  induction n with
  | zero => exact Nat.le_refl 0
  | succ n ih =>
    have := ih (fun i hi => h i (by omega))
    have := h n (by omega)
    show suN F n + F n ≤ suN G n + G n
    omega
theorem Inv_star {N : Nat} {k : Sk} (h : Inv N k) (E : Nat → Int32) (b s : Int32) : Inv (N + 1) (oStar k E b s).2.1 := by
  have hO := Ok_oCmd k E 0 b s 0 h.1
  have hO : Ok (oStar k E b s).2.1 := hO
  have hm := h.mono (Nat.le_succ N)
  unfold oStar at hO ⊢
  by_cases h1 : winB s 0 3 = true
  · rw [if_pos h1] at hO ⊢
    by_cases h2 : winB b 1 9 = true
    · rw [if_pos h2] at hO ⊢
      by_cases h3 : nI (k.2 0) < 8
      · rw [if_pos h3] at hO ⊢
        obtain ⟨-, hc, hb, hcl, hsi, hex, hro, him⟩ := hm
        have hb9 := win_nI (a := 1) (b := 9) h2 (by decide) (by decide)
        refine ⟨hO, hc, fun i hi => ?_, fun i hi => ?_, fun i hi => ?_, ?_, hro, him⟩
        · have hi : i < k.2 0 + 1 := hi
          show (if i = k.2 0 then b else k.1 0 i) = nI (tn (if i = k.2 0 then b else k.1 0 i)) ∧ 1 ≤ tn (if i = k.2 0 then b else k.1 0 i) ∧ tn (if i = k.2 0 then b else k.1 0 i) ≤ 9
          by_cases h9 : i = k.2 0
          · rw [if_pos h9]; exact hb9
          · rw [if_neg h9]; exact hb i (by omega)
        · have hi : i < k.2 0 + 1 := hi
          show (if i = k.2 0 then (-4 : Int32) else k.1 2 i) = -4 ∨ ((if i = k.2 0 then (-4 : Int32) else k.1 2 i) = nI (tn (if i = k.2 0 then (-4 : Int32) else k.1 2 i)) ∧ tn (if i = k.2 0 then (-4 : Int32) else k.1 2 i) < k.2 1)
          by_cases h9 : i = k.2 0
          · rw [if_pos h9]; exact Or.inl rfl
          · rw [if_neg h9]; exact hcl i (by omega)
        · have hi : i < k.2 0 + 1 := hi
          show (if i = k.2 0 then (0 : Int32) else k.1 3 i) = nI (tn (if i = k.2 0 then (0 : Int32) else k.1 3 i)) ∧ tn (if i = k.2 0 then (0 : Int32) else k.1 3 i) ≤ N + 1
          by_cases h9 : i = k.2 0
          · rw [if_pos h9]; exact ⟨rfl, Nat.zero_le _⟩
          · rw [if_neg h9]; exact hsi i (by omega)
        · refine ⟨hex.1, ?_⟩
          show tn (k.1 19 1) ≤ suN (fun i => tn (if i = k.2 0 then (0 : Int32) else k.1 3 i)) (k.2 0) + _
          rw [suN_ext (G := fun i => tn (k.1 3 i)) (k.2 0) (fun i hi => by rw [if_neg (by omega)])]
          have := hex.2
          omega
      · rw [if_neg h3]; exact hm
    · rw [if_neg h2]; exact hm
  · rw [if_neg h1]; exact hm
theorem Inv_roof {N : Nat} {k : Sk} (h : Inv N k) (E : Nat → Int32) (c : Int32) : Inv (N + 1) (oRoof k E c).2.1 := by
  have hO : Ok (oRoof k E c).2.1 := Ok_oCmd k E 1 c 0 0 h.1
  have hm := h.mono (Nat.le_succ N)
  unfold oRoof at hO ⊢
  by_cases h1 : winB c 0 99 = true
  · rw [if_pos h1] at hO ⊢
    by_cases h3 : nI (k.2 1) < 5
    · rw [if_pos h3] at hO ⊢
      obtain ⟨-, hc, hb, hcl, hsi, hex, hro, him⟩ := hm
      have hb9 := win_nI (a := 0) (b := 99) h1 (by decide) (by decide)
      refine ⟨hO, hc, hb, fun i hi => ?_, hsi, hex, fun r hr => ?_, him⟩
      · rcases hcl i hi with h9 | ⟨h9, h10⟩
        · exact Or.inl h9
        · exact Or.inr ⟨h9, Nat.lt_succ_of_lt h10⟩
      · have hr : r < k.2 1 + 1 := hr
        by_cases h9 : r = k.2 1
        · have e : ∀ q v, (if r = k.2 1 then v else k.1 q r) = v := fun q v => if_pos h9
          show ((if r = k.2 1 then c else k.1 5 r) = nI (tn (if r = k.2 1 then c else k.1 5 r)) ∧ tn (if r = k.2 1 then c else k.1 5 r) ≤ 100 * (N + 1)) ∧ ((if r = k.2 1 then (0 : Int32) else k.1 6 r) = nI (tn (if r = k.2 1 then (0 : Int32) else k.1 6 r)) ∧ tn (if r = k.2 1 then (0 : Int32) else k.1 6 r) ≤ 100 * (N + 1)) ∧ ((if r = k.2 1 then (0 : Int32) else k.1 7 r) = nI (tn (if r = k.2 1 then (0 : Int32) else k.1 7 r)) ∧ tn (if r = k.2 1 then (0 : Int32) else k.1 7 r) ≤ 9) ∧ (if r = k.2 1 then (0 : Int32) else k.1 6 r) = (if r = k.2 1 then (0 : Int32) else k.1 8 r) - (if r = k.2 1 then (0 : Int32) else k.1 9 r) ∧ ∃ a b, a < 256 ∧ b < 256 ∧ (if r = k.2 1 then (0 : Int32) else k.1 12 r) = nI a ∧ (if r = k.2 1 then (0 : Int32) else k.1 13 r) = nI b ∧ nI b &&& (nI a ^^^ (-1)) = 0
          simp only [e]
          exact ⟨⟨hb9.1, by omega⟩, ⟨rfl, by rw [tn_0]; omega⟩, ⟨rfl, by decide⟩, rfl, 0, 0, by decide, by decide, rfl, rfl, rfl⟩
        · have e : ∀ q (v : Int32), (if r = k.2 1 then v else k.1 q r) = k.1 q r := fun q v => if_neg h9
          show ((if r = k.2 1 then c else k.1 5 r) = nI (tn (if r = k.2 1 then c else k.1 5 r)) ∧ tn (if r = k.2 1 then c else k.1 5 r) ≤ 100 * (N + 1)) ∧ ((if r = k.2 1 then (0 : Int32) else k.1 6 r) = nI (tn (if r = k.2 1 then (0 : Int32) else k.1 6 r)) ∧ tn (if r = k.2 1 then (0 : Int32) else k.1 6 r) ≤ 100 * (N + 1)) ∧ ((if r = k.2 1 then (0 : Int32) else k.1 7 r) = nI (tn (if r = k.2 1 then (0 : Int32) else k.1 7 r)) ∧ tn (if r = k.2 1 then (0 : Int32) else k.1 7 r) ≤ 9) ∧ (if r = k.2 1 then (0 : Int32) else k.1 6 r) = (if r = k.2 1 then (0 : Int32) else k.1 8 r) - (if r = k.2 1 then (0 : Int32) else k.1 9 r) ∧ ∃ a b, a < 256 ∧ b < 256 ∧ (if r = k.2 1 then (0 : Int32) else k.1 12 r) = nI a ∧ (if r = k.2 1 then (0 : Int32) else k.1 13 r) = nI b ∧ nI b &&& (nI a ^^^ (-1)) = 0
          simp only [e]
          exact hro r (by omega)
    · rw [if_neg h3]; exact hm
  · rw [if_neg h1]; exact hm
theorem hasB2 {m n : Nat} {r x : Int32} (h : (hasB m r && hasB n x) = true) (hm : m < 1000) (hn : n < 1000) : (r = nI (tn r) ∧ tn r < m) ∧ x = nI (tn x) ∧ tn x < n := by
  rw [Bool.and_eq_true] at h
  exact ⟨hasB_tn h.1 hm, hasB_tn h.2 hn⟩
theorem Inv_cloud {N : Nat} {k : Sk} (h : Inv N k) (E : Nat → Int32) (s c : Int32) : Inv (N + 1) (oCloud k E s c).2.1 := by
  have hO : Ok (oCloud k E s c).2.1 := Ok_oCmd k E 2 s c 0 h.1
  have hm := h.mono (Nat.le_succ N)
  unfold oCloud at hO ⊢
  by_cases h1 : winB s 0 3 = true
  · rw [if_pos h1] at hO ⊢
    by_cases h2 : winB c 0 9 = true
    · rw [if_pos h2] at hO ⊢
      by_cases h3 : k.1 4 (tn s) = c
      · rw [if_pos h3]; exact hm
      · rw [if_neg h3] at hO ⊢
        obtain ⟨-, hc, hb, hcl, hsi, hex, hro, him⟩ := hm
        have hc9 := win_nI (a := 0) (b := 9) h2 (by decide) (by decide)
        refine ⟨hO, fun g hg => ?_, hb, hcl, hsi, hex, hro, him⟩
        show (if g = tn s then c else k.1 4 g) = nI (tn (if g = tn s then c else k.1 4 g)) ∧ tn (if g = tn s then c else k.1 4 g) ≤ 9
        by_cases h9 : g = tn s
        · rw [if_pos h9]; exact ⟨hc9.1, hc9.2.2⟩
        · rw [if_neg h9]; exact hc g hg
    · rw [if_neg h2]; exact hm
  · rw [if_neg h1]; exact hm
theorem Inv_claim {N : Nat} {k : Sk} (h : Inv N k) (hN : N + 1 ≤ 1000000) (E : Nat → Int32) (r x : Int32) : Inv (N + 1) (oClaim k E r x).2.1 := by
  have hO : Ok (oClaim k E r x).2.1 := Ok_oCmd k E 4 r x 0 h.1
  have hm := h.mono (Nat.le_succ N)
  have hO1 := h.1.1
  have hO2 := h.1.2.1
  unfold oClaim at hO ⊢
  by_cases h1 : (hasB (k.2 1) r && hasB (k.2 0) x) = true
  · rw [if_pos h1] at hO ⊢
    obtain ⟨⟨hr1, hr2⟩, hx1, hx2⟩ := hasB2 h1 (by omega) (by omega)
    by_cases h2 : k.1 2 (tn x) = -4
    · rw [if_pos h2] at hO ⊢
      by_cases h3 : k.1 5 (tn r) < 2 * k.1 0 (tn x)
      · rw [if_pos h3]; exact hm
      · rw [if_neg h3] at hO ⊢
        obtain ⟨-, hc, hb, hcl, hsi, hex, hro, him⟩ := hm
        obtain ⟨b1, b2, b3⟩ := hb (tn x) hx2
        obtain ⟨⟨c1, c2⟩, -⟩ := hro (tn r) hr2
        have e2 : 2 * k.1 0 (tn x) = nI (2 * tn (k.1 0 (tn x))) := by
          have : nI (2 * tn (k.1 0 (tn x))) = nI (tn (k.1 0 (tn x))) + nI (tn (k.1 0 (tn x))) := by rw [nI_add]; congr 1; omega
          rw [this, ← b1]
          grind
        rw [e2, c1] at h3
        have h3 : ¬ tn (k.1 5 (tn r)) < 2 * tn (k.1 0 (tn x)) := fun h9 => h3 (nI_lt (a := tn (k.1 5 (tn r))) (b := 2 * tn (k.1 0 (tn x))) h9 (by omega))
        have ev : k.1 5 (tn r) - 2 * k.1 0 (tn x) = nI (tn (k.1 5 (tn r)) - 2 * tn (k.1 0 (tn x))) := by
          have : nI (tn (k.1 5 (tn r)) - 2 * tn (k.1 0 (tn x))) + nI (2 * tn (k.1 0 (tn x))) = nI (tn (k.1 5 (tn r))) := by rw [nI_add]; congr 1; omega
          rw [e2]
          rw [← c1] at this
          rw [← this]
          grind
        refine ⟨hO, hc, hb, fun i hi => ?_, hsi, hex, fun q hq => ?_, him⟩
        · show (if i = tn x then r else k.1 2 i) = -4 ∨ ((if i = tn x then r else k.1 2 i) = nI (tn (if i = tn x then r else k.1 2 i)) ∧ tn (if i = tn x then r else k.1 2 i) < k.2 1)
          by_cases h9 : i = tn x
          · rw [if_pos h9]; exact Or.inr ⟨hr1, hr2⟩
          · rw [if_neg h9]; exact hcl i hi
        · obtain ⟨d1, d2⟩ := hro q hq
          refine ⟨?_, d2⟩
          show (if q = tn r then k.1 5 (tn r) - 2 * k.1 0 (tn x) else k.1 5 q) = nI (tn (if q = tn r then k.1 5 (tn r) - 2 * k.1 0 (tn x) else k.1 5 q)) ∧ tn (if q = tn r then k.1 5 (tn r) - 2 * k.1 0 (tn x) else k.1 5 q) ≤ 100 * (N + 1)
          by_cases h9 : q = tn r
          · rw [if_pos h9, ev, tn_nI (by have := tn_lt (k.1 5 (tn r)); omega)]
            exact ⟨rfl, by omega⟩
          · rw [if_neg h9]; exact d1
    · rw [if_neg h2]; exact hm
  · rw [if_neg h1]; exact hm
theorem Inv_drop {N : Nat} {k : Sk} (h : Inv N k) (E : Nat → Int32) (x : Int32) : Inv (N + 1) (oDrop k E x).2.1 := by
  have hO : Ok (oDrop k E x).2.1 := Ok_oCmd k E 5 x 0 0 h.1
  have hm := h.mono (Nat.le_succ N)
  unfold oDrop at hO ⊢
  by_cases h1 : hasB (k.2 0) x = true
  · rw [if_pos h1] at hO ⊢
    by_cases h2 : k.1 2 (tn x) = -4
    · rw [if_pos h2]; exact hm
    · rw [if_neg h2] at hO ⊢
      obtain ⟨-, hc, hb, hcl, hsi, hex, hro, him⟩ := hm
      refine ⟨hO, hc, hb, fun i hi => ?_, hsi, hex, hro, him⟩
      show (if i = tn x then (-4 : Int32) else k.1 2 i) = -4 ∨ ((if i = tn x then (-4 : Int32) else k.1 2 i) = nI (tn (if i = tn x then (-4 : Int32) else k.1 2 i)) ∧ tn (if i = tn x then (-4 : Int32) else k.1 2 i) < k.2 1)
      by_cases h9 : i = tn x
      · rw [if_pos h9]; exact Or.inl rfl
      · rw [if_neg h9]; exact hcl i hi
  · rw [if_neg h1]; exact hm
theorem Inv_wish {N : Nat} {k : Sk} (h : Inv N k) (E : Nat → Int32) (r x d : Int32) : Inv (N + 1) (oWish k E r x d).2.1 := by
  have hO : Ok (oWish k E r x d).2.1 := Ok_oCmd k E 6 r x d h.1
  have hm := h.mono (Nat.le_succ N)
  unfold oWish at hO ⊢
  by_cases h1 : (hasB (k.2 1) r && hasB (k.2 0) x) = true
  · rw [if_pos h1] at hO ⊢
    by_cases h2 : winB d 0 9 = true
    · rw [if_pos h2] at hO ⊢
      by_cases h3 : k.1 13 (tn r) &&& (1 <<< (x &&& 31)) = 0
      · rw [if_pos h3]; exact hm
      · rw [if_neg h3] at hO ⊢
        by_cases h4 : nI (k.2 2) < 8
        · rw [if_pos h4] at hO ⊢
          obtain ⟨-, hc, hb, hcl, hsi, hex, hro, him⟩ := hm
          refine ⟨hO, hc, hb, hcl, hsi, hex, hro, fun w hw => ?_⟩
          have hw : w < k.2 2 + 1 := hw
          show (if w = k.2 2 then (-4 : Int32) else k.1 18 w) = -4 ∨ ((if w = k.2 2 then (-4 : Int32) else k.1 18 w) = nI (tn (if w = k.2 2 then (-4 : Int32) else k.1 18 w)) ∧ tn (if w = k.2 2 then (-4 : Int32) else k.1 18 w) < 3)
          by_cases h9 : w = k.2 2
          · rw [if_pos h9]; exact Or.inl rfl
          · rw [if_neg h9]; exact him w (by omega)
        · rw [if_neg h4]; exact hm
    · rw [if_neg h2]; exact hm
  · rw [if_neg h1]; exact hm
theorem nI_sub {a b : Nat} (h : b ≤ a) : nI a - nI b = nI (a - b) := by
  have : nI (a - b) + nI b = nI a := by rw [nI_add]; congr 1; omega
  rw [← this]
  grind
theorem Inv_pay {N : Nat} {k : Sk} (h : Inv N k) (hN : N + 1 ≤ 1000000) (E : Nat → Int32) (r c : Int32) : Inv (N + 1) (oPay k E r c).2.1 := by
  have hO : Ok (oPay k E r c).2.1 := Ok_oCmd k E 7 r c 0 h.1
  have hm := h.mono (Nat.le_succ N)
  have hO2 := h.1.2.1
  unfold oPay at hO ⊢
  by_cases h1 : hasB (k.2 1) r = true
  · rw [if_pos h1] at hO ⊢
    obtain ⟨hr1, hr2⟩ := hasB_tn h1 (by omega)
    by_cases h2 : winB c 1 99 = true
    · rw [if_pos h2] at hO ⊢
      have hc9 := win_nI (a := 1) (b := 99) h2 (by decide) (by decide)
      by_cases h3 : k.1 5 (tn r) < c
      · rw [if_pos h3]; exact hm
      · rw [if_neg h3] at hO ⊢
        by_cases h4 : k.1 6 (tn r) < c
        · rw [if_pos h4]; exact hm
        · rw [if_neg h4] at hO ⊢
          obtain ⟨-, hc, hb, hcl, hsi, hex, hro, him⟩ := hm
          refine ⟨hO, hc, hb, hcl, hsi, hex, fun q hq => ?_, him⟩
          obtain ⟨d5, d6, d7, d8, d9⟩ := hro q hq
          have e5 : (sU (sU (sU k 5 (tn r) (k.1 5 (tn r) - c)) 9 (tn r) (k.1 9 (tn r) + c)) 6 (tn r) (k.1 6 (tn r) - c)).1 5 q = if q = tn r then k.1 5 (tn r) - c else k.1 5 q := rfl
          have e6 : (sU (sU (sU k 5 (tn r) (k.1 5 (tn r) - c)) 9 (tn r) (k.1 9 (tn r) + c)) 6 (tn r) (k.1 6 (tn r) - c)).1 6 q = if q = tn r then k.1 6 (tn r) - c else k.1 6 q := rfl
          have e9 : (sU (sU (sU k 5 (tn r) (k.1 5 (tn r) - c)) 9 (tn r) (k.1 9 (tn r) + c)) 6 (tn r) (k.1 6 (tn r) - c)).1 9 q = if q = tn r then k.1 9 (tn r) + c else k.1 9 q := rfl
          refine ⟨?_, ?_, d7, ?_, d9⟩
          · show (sU _ _ _ _).1 5 q = nI (tn ((sU _ _ _ _).1 5 q)) ∧ tn ((sU _ _ _ _).1 5 q) ≤ _
            rw [e5]
            by_cases h9 : q = tn r
            · subst h9
              rw [if_pos rfl]
              rw [d5.1, hc9.1] at h3
              have h3 : ¬ tn (k.1 5 (tn r)) < tn c := fun h9 => h3 (nI_lt (a := tn (k.1 5 (tn r))) (b := tn c) h9 (by omega))
              rw [d5.1, hc9.1, nI_sub (by omega), tn_nI (by have := tn_lt (k.1 5 (tn r)); omega)]
              exact ⟨rfl, by omega⟩
            · rw [if_neg h9]; exact d5
          · show (sU _ _ _ _).1 6 q = nI (tn ((sU _ _ _ _).1 6 q)) ∧ tn ((sU _ _ _ _).1 6 q) ≤ _
            rw [e6]
            by_cases h9 : q = tn r
            · subst h9
              rw [if_pos rfl]
              rw [d6.1, hc9.1] at h4
              have h4 : ¬ tn (k.1 6 (tn r)) < tn c := fun h9 => h4 (nI_lt (a := tn (k.1 6 (tn r))) (b := tn c) h9 (by omega))
              rw [d6.1, hc9.1, nI_sub (by omega), tn_nI (by have := tn_lt (k.1 6 (tn r)); omega)]
              exact ⟨rfl, by omega⟩
            · rw [if_neg h9]; exact d6
          · show (sU _ _ _ _).1 6 q = k.1 8 q - (sU _ _ _ _).1 9 q
            rw [e6, e9]
            by_cases h9 : q = tn r
            · subst h9
              rw [if_pos rfl, if_pos rfl, d8]
              grind
            · rw [if_neg h9, if_neg h9]; exact d8
    · rw [if_neg h2]; exact hm
  · rw [if_neg h1]; exact hm
theorem Inv_stay {N : Nat} {k : Sk} (h : Inv N k) (E : Nat → Int32) (r c : Int32) : Inv (N + 1) (oStay k E r c).2.1 := by
  have hO : Ok (oStay k E r c).2.1 := Ok_oCmd k E 10 r c 0 h.1
  have hm := h.mono (Nat.le_succ N)
  unfold oStay at hO ⊢
  by_cases h1 : hasB (k.2 1) r = true
  · rw [if_pos h1] at hO ⊢
    by_cases h2 : winB c 0 9 = true
    · rw [if_pos h2] at hO ⊢
      have hc9 := win_nI (a := 0) (b := 9) h2 (by decide) (by decide)
      by_cases h3 : k.1 7 (tn r) = c
      · rw [if_pos h3]; exact hm
      · rw [if_neg h3] at hO ⊢
        obtain ⟨-, hc, hb, hcl, hsi, hex, hro, him⟩ := hm
        refine ⟨hO, hc, hb, hcl, hsi, hex, fun q hq => ?_, him⟩
        obtain ⟨d5, d6, d7, d8, d9⟩ := hro q hq
        refine ⟨d5, d6, ?_, d8, d9⟩
        show (if q = tn r then c else k.1 7 q) = nI (tn (if q = tn r then c else k.1 7 q)) ∧ tn (if q = tn r then c else k.1 7 q) ≤ 9
        by_cases h9 : q = tn r
        · rw [if_pos h9]; exact ⟨hc9.1, hc9.2.2⟩
        · rw [if_neg h9]; exact d7
    · rw [if_neg h2]; exact hm
  · rw [if_neg h1]; exact hm
theorem Inv_redeem {N : Nat} {k : Sk} (h : Inv N k) (hN : N + 1 ≤ 1000000) (E : Nat → Int32) (x : Int32) : Inv (N + 1) (oRedeem k E x).2.1 := by
  have hO : Ok (oRedeem k E x).2.1 := Ok_oCmd k E 9 x 0 0 h.1
  have hm := h.mono (Nat.le_succ N)
  have hO3 := h.1.2.2.1
  unfold oRedeem at hO ⊢
  by_cases h1 : hasB (k.2 2) x = true
  · rw [if_pos h1] at hO ⊢
    obtain ⟨hx1, hx2⟩ := hasB_tn h1 (by omega)
    by_cases h2 : isImp k (tn x) = true
    · rw [if_pos h2] at hO ⊢
      by_cases h3 : k.1 5 (wR k (tn x)) < cost k (tn x)
      · rw [if_pos h3]; exact hm
      · rw [if_neg h3] at hO ⊢
        obtain ⟨c1, c2⟩ := h.cost hx2 h2
        obtain ⟨-, hc, hb, hcl, hsi, hex, hro, him⟩ := hm
        refine ⟨hO, hc, hb, hcl, hsi, hex, fun q hq => ?_, fun w hw => ?_⟩
        · obtain ⟨d5, d6⟩ := hro q hq
          refine ⟨?_, d6⟩
          show (if q = wR k (tn x) then k.1 5 (wR k (tn x)) - cost k (tn x) else k.1 5 q) = nI (tn (if q = wR k (tn x) then k.1 5 (wR k (tn x)) - cost k (tn x) else k.1 5 q)) ∧ tn (if q = wR k (tn x) then k.1 5 (wR k (tn x)) - cost k (tn x) else k.1 5 q) ≤ 100 * (N + 1)
          by_cases h9 : q = wR k (tn x)
          · rw [if_pos h9]
            subst h9
            rw [d5.1, c1] at h3
            have h3 : ¬ tn (k.1 5 (wR k (tn x))) < tn (cost k (tn x)) := fun h9 => h3 (nI_lt h9 (by omega))
            rw [d5.1, c1, nI_sub (by omega), tn_nI (by have := tn_lt (k.1 5 (wR k (tn x))); omega)]
            exact ⟨rfl, by omega⟩
          · rw [if_neg h9]; exact d5
        · show (if w = tn x then (-4 : Int32) else k.1 18 w) = -4 ∨ ((if w = tn x then (-4 : Int32) else k.1 18 w) = nI (tn (if w = tn x then (-4 : Int32) else k.1 18 w)) ∧ tn (if w = tn x then (-4 : Int32) else k.1 18 w) < 3)
          by_cases h9 : w = tn x
          · rw [if_pos h9]; exact Or.inl rfl
          · rw [if_neg h9]; exact him w hw
    · rw [if_neg h2]; exact hm
  · rw [if_neg h1]; exact hm
/-! impounding all wishes of a roof -/
def frB (k : Sk) (g : Int32) (w : Nat) : Bool := decide (k.1 14 w = g) && !isImp k w
theorem iA_row (k : Sk) (g : Int32) (n : Nat) {q : Nat} (hq : q ≠ 18) : (iA k g n).1 q = k.1 q := by
  induction n with
  | zero => rfl
  | succ n ih =>
    show (if _ then sU (iA k g n) 18 n 0 else iA k g n).1 q = k.1 q
    split
    · show (if q = 18 then _ else (iA k g n).1 q) = k.1 q
      rw [if_neg hq, ih]
    · exact ih
theorem iA_18 (k : Sk) (g : Int32) (n : Nat) : ∀ w, (iA k g n).1 18 w = if (decide (w < n) && frB k g w) = true then 0 else k.1 18 w := by
  induction n with
  | zero => intro w; simp [iA]
  | succ n ih =>
    intro w
    have hn : (iA k g n).1 18 n = k.1 18 n := by rw [ih]; simp
    have hc : (decide ((iA k g n).1 14 n = g) && !isImp (iA k g n) n) = frB k g n := by
      unfold frB isImp
      rw [iA_row k g n (by decide), hn]
    show (if (decide ((iA k g n).1 14 n = g) && !isImp (iA k g n) n) = true then sU (iA k g n) 18 n 0 else iA k g n).1 18 w = _
    rw [hc]
    by_cases hf : frB k g n = true
    · rw [if_pos hf, sU_at, ih w]
      by_cases h9 : w = n
      · subst h9; simp [hf]
      · rw [if_neg h9]
        by_cases h8 : w < n
        · simp [h8, show w < n + 1 by omega]
        · simp [h8, show ¬ w < n + 1 by omega]
    · rw [if_neg hf, ih w]
      by_cases h9 : w = n
      · subst h9; simp [hf]
      · by_cases h8 : w < n
        · simp [h8, show w < n + 1 by omega]
        · simp [h8, show ¬ w < n + 1 by omega]
theorem tA_n (k : Sk) (g : Int32) (n : Nat) : tA k g n = cN (frB k g) n := by
  induction n with
  | zero => rfl
  | succ n ih =>
    have hn : (iA k g n).1 18 n = k.1 18 n := by rw [iA_18]; simp
    have hc : (decide ((iA k g n).1 14 n = g) && !isImp (iA k g n) n) = frB k g n := by
      unfold frB isImp
      rw [iA_row k g n (by decide), hn]
    show (if (decide ((iA k g n).1 14 n = g) && !isImp (iA k g n) n) = true then tA k g n + 1 else tA k g n) = cN (frB k g) n + (if frB k g n then 1 else 0)
    rw [hc, ih]
    by_cases hf : frB k g n = true
    · rw [if_pos hf, if_pos hf]
    · rw [if_neg hf, if_neg hf]; rfl
theorem iA_same (k : Sk) (g : Int32) (n : Nat) (h : tA k g n = 0) : iA k g n = k := by
  induction n with
  | zero => rfl
  | succ n ih =>
    have h2 : (if (decide ((iA k g n).1 14 n = g) && !isImp (iA k g n) n) = true then tA k g n + 1 else tA k g n) = 0 := h
    show (if (decide ((iA k g n).1 14 n = g) && !isImp (iA k g n) n) = true then sU (iA k g n) 18 n 0 else iA k g n) = k
    by_cases hf : (decide ((iA k g n).1 14 n = g) && !isImp (iA k g n) n) = true
    · rw [if_pos hf] at h2; omega
    · rw [if_neg hf] at h2 ⊢; exact ih h2
theorem Inv_iA {N : Nat} {k : Sk} (h : Inv N k) (g : Int32) (n : Nat) : Inv N (iA k g n) := by
  obtain ⟨hO, hc, hb, hcl, hsi, hex, hro, him⟩ := h
  have e2 := iA_2 k g n
  have e0 := congrFun e2 0
  have e1 := congrFun e2 1
  have e3 := congrFun e2 2
  refine ⟨Ok_iA hO g n, ?_, ?_, ?_, ?_, ?_, ?_, fun w hw => ?_⟩
  · intro z hz; unfold cl; rw [iA_row k g n (by decide)]; exact hc z hz
  · intro i hi; rw [iA_row k g n (by decide)]; exact hb i (by omega)
  · intro i hi; rw [iA_row k g n (by decide), e1]; exact hcl i (by omega)
  · intro i hi; rw [iA_row k g n (by decide)]; exact hsi i (by omega)
  · rw [iA_row k g n (by decide), iA_row k g n (by decide), e0]; exact hex
  · intro r hr
    rw [iA_row k g n (by decide), iA_row k g n (by decide), iA_row k g n (by decide), iA_row k g n (by decide), iA_row k g n (by decide), iA_row k g n (by decide), iA_row k g n (by decide)]
    exact hro r (by omega)
  · rw [iA_18]
    split
    · exact Or.inr ⟨rfl, by decide⟩
    · exact him w (by omega)
theorem Inv_pound {N : Nat} {k : Sk} (h : Inv N k) (E : Nat → Int32) (r : Int32) : Inv (N + 1) (oPound k E r).2.1 := by
  have hm := h.mono (Nat.le_succ N)
  unfold oPound
  by_cases h1 : hasB (k.2 1) r = true
  · rw [if_pos h1]
    by_cases h2 : 0 < k.1 7 (tn r)
    · rw [if_pos h2]; exact hm
    · rw [if_neg h2]
      by_cases h3 : k.1 6 (tn r) < 10
      · rw [if_pos h3]; exact hm
      · rw [if_neg h3]
        split <;> exact Inv_iA hm r _
  · rw [if_neg h1]; exact hm
/-! a sighting -/
theorem or_bit : ∀ a, a < 256 → ∀ i, i < 8 → nI a ||| (1 <<< (nI i &&& 31)) = nI (a ||| 2 ^ i) ∧ a ||| 2 ^ i < 256 := by decide +kernel
theorem sub_or {a b i : Nat} (ha : a < 256) (hb : b < 256) (hi : i < 8) (h : nI b &&& (nI a ^^^ (-1)) = 0) : nI (b ||| 2 ^ i) &&& (nI (a ||| 2 ^ i) ^^^ (-1)) = 0 ∧ nI b &&& (nI (a ||| 2 ^ i) ^^^ (-1)) = 0 := by
  have h1 := (tb_sub hb ha).mp h
  refine ⟨(tb_sub (or_bit b hb i hi).2 (or_bit a ha i hi).2).mpr (fun j hj hbj => ?_), (tb_sub hb (or_bit a ha i hi).2).mpr (fun j hj hbj => ?_)⟩
  · rw [Nat.testBit_or] at hbj ⊢
    cases h2 : b.testBit j with
    | true => rw [h1 j hj h2]; rfl
    | false => rw [h2, Bool.false_or] at hbj; rw [hbj, Bool.or_true]
  · rw [Nat.testBit_or, h1 j hj hbj]; rfl
theorem payI_n {c v : Nat} (hc : c < 2 ^ 31) (hv : v < 2 ^ 31) : payI (nI c) (nI v) = nI (if v < c then v else c) := by
  unfold payI
  by_cases h : v < c
  · rw [if_pos h, if_pos (nI_lt h hc)]
  · rw [if_neg h, if_neg (nI_nlt (by omega) hv)]
theorem half_n : ∀ v, v < 10 → nI v / 2 = nI (v / 2) := by decide +kernel
theorem lev_n {N : Nat} {k : Sk} (h : Inv N k) (r : Int32) {i : Nat} (hi : i < k.2 0) : ∃ v, levI k r i = nI v ∧ v ≤ 9 := by
  obtain ⟨b1, b2, b3⟩ := h.2.2.1 i hi
  unfold levI
  split
  · split
    · exact ⟨0, rfl, by decide⟩
    · exact ⟨_, b1, b3⟩
  · exact ⟨0, rfl, by decide⟩
/-- a sighting, as the law sees it -/
def SGF (k : Sk) (r i : Nat) (a : Int32) (k' : Sk) (E' : Nat → Int32) : Prop :=
  (a = -3 ∧ (k.1 12 r >>> (nI i &&& 31)) &&& 1 = 1 ∧ E' 0 = 3 ∧ E' 1 = bcI (k.1 12 r) ∧ k' = k) ∨
  (¬ a < 0 ∧ (k.1 12 r >>> (nI i &&& 31)) &&& 1 = 0 ∧ a = levI k (nI r) i ∧ k'.1 5 r = k.1 5 r - payI (k.1 5 r) (levI k (nI r) i) ∧ k'.1 6 r = k.1 6 r + levI k (nI r) i - payI (k.1 5 r) (levI k (nI r) i) ∧ k'.1 12 r = k.1 12 r ||| (1 <<< (nI i &&& 31)) ∧
    (¬ k.1 2 i = -4 → ¬ k.1 2 i = nI r → k'.1 5 (tn (k.1 2 i)) = k.1 5 (tn (k.1 2 i)) + payI (k.1 5 r) (levI k (nI r) i) / 2) ∧ (k'.1 13 r >>> (nI i &&& 31)) &&& 1 = bI (isSeen k' i) ∧ k'.2 = k.2)
theorem nI_tn1 {x : Int32} {M : Nat} (h : x = nI (tn x)) (hM : tn x ≤ M) (h2 : M + 1 < 2 ^ 31) : x + 1 = nI (tn x + 1) ∧ tn (x + 1) = tn x + 1 := by
  have e : x + 1 = nI (tn x + 1) := by rw [← nI_1, ← h]
  exact ⟨e, by rw [e, tn_nI (by omega)]⟩
theorem suN_up {F : Nat → Int32} {n i M : Nat} (hi : i < n) (h : F i = nI (tn (F i)) ∧ tn (F i) ≤ M) (h2 : M + 1 < 2 ^ 31) : suN (fun z => tn (if z = i then F i + 1 else F z)) n = suN (fun z => tn (F z)) n + 1 := by
  have e : suN (fun z => tn (if z = i then F i + 1 else F z)) n = suN (fun z => tn (F z) + (if z = i then 1 else 0)) n := suN_ext n (fun z _ => by
    by_cases h9 : z = i
    · subst h9; rw [if_pos rfl, if_pos rfl]; exact (nI_tn1 h.1 h.2 h2).2
    · rw [if_neg h9, if_neg h9]; rfl)
  rw [e, suN_add, suN_one (F := fun z => if z = i then 1 else 0) hi (fun z _ hne => if_neg hne), if_pos rfl]
/-- the sky behind a sighting of a star that is seen -/
def sgS (k : Sk) (r i : Nat) (lv : Int32) : Sk := colS (sU (sgt1 k (nI r) (nI i)) 13 r (k.1 13 r ||| (1 <<< (nI i &&& 31)))) r lv (k.1 2 i)
def sgN (k : Sk) (r i : Nat) : Sk := sU (sgt1 k (nI r) (nI i)) 19 1 (k.1 19 1 + 1)
theorem oSight_eq {k : Sk} {r i : Nat} (hr : r < k.2 1) (hi : i < k.2 0) (h1 : k.2 1 < 1000) (h2 : k.2 0 < 1000) (E : Nat → Int32) : oSight k E (nI r) (nI i) = if k.1 12 r &&& (1 <<< (nI i &&& 31)) = 0 then (if isSeen k i = true then (levI k (nI r) i, sgS k r i (levI k (nI r) i), E) else (0, sgN k r i, E)) else (-3, k, rfN 3 (bcI (k.1 12 r))) := by
  unfold oSight
  rw [hasB_nI hr h1, hasB_nI hi h2, tn_nI (show r < 2 ^ 31 by omega), tn_nI (show i < 2 ^ 31 by omega)]
  rfl
theorem sgS_row (k : Sk) (r i : Nat) (lv : Int32) : (sgS k r i lv).2 = k.2 ∧ (sgS k r i lv).1 0 = k.1 0 ∧ (sgS k r i lv).1 1 = k.1 1 ∧ (sgS k r i lv).1 2 = k.1 2 ∧ (sgS k r i lv).1 4 = k.1 4 ∧ (sgS k r i lv).1 7 = k.1 7 ∧ (sgS k r i lv).1 18 = k.1 18 ∧ (sgS k r i lv).1 19 = k.1 19 := by
  unfold sgS colS
  split <;> exact ⟨rfl, rfl, rfl, rfl, rfl, rfl, rfl, rfl⟩
theorem sgS_row2 (k : Sk) {r i : Nat} (hr : r < 2 ^ 31) (hi : i < 2 ^ 31) (lv : Int32) : (∀ z, (sgS k r i lv).1 3 z = if z = i then k.1 3 i + 1 else k.1 3 z) ∧ (∀ z, (sgS k r i lv).1 12 z = if z = r then k.1 12 r ||| (1 <<< (nI i &&& 31)) else k.1 12 z) ∧ (∀ z, (sgS k r i lv).1 13 z = if z = r then k.1 13 r ||| (1 <<< (nI i &&& 31)) else k.1 13 z) ∧
    (∀ z, (sgS k r i lv).1 6 z = if z = r then k.1 6 r + (lv - payI (k.1 5 r) lv) else k.1 6 z) ∧ (∀ z, (sgS k r i lv).1 8 z = if z = r then k.1 8 r + lv else k.1 8 z) ∧ (∀ z, (sgS k r i lv).1 9 z = if z = r then k.1 9 r + payI (k.1 5 r) lv else k.1 9 z) := by
  have e1 : tn (nI r) = r := tn_nI hr
  have e2 : tn (nI i) = i := tn_nI hi
  unfold sgS colS sgt1
  rw [e1, e2]
  split <;> exact ⟨fun _ => rfl, fun _ => rfl, fun _ => rfl, fun _ => rfl, fun _ => rfl, fun _ => rfl⟩
theorem sgS_5 (k : Sk) {r i : Nat} (hr : r < 2 ^ 31) (hi : i < 2 ^ 31) (lv : Int32) : ∀ z, (sgS k r i lv).1 5 z = (if z = r then k.1 5 r - payI (k.1 5 r) lv else k.1 5 z) + (if hasB (k.2 1) (k.1 2 i) = true ∧ z = tn (k.1 2 i) then payI (k.1 5 r) lv / 2 else 0) := by
  intro z
  have e1 : tn (nI r) = r := tn_nI hr
  have e2 : tn (nI i) = i := tn_nI hi
  have hk : (sU (sgt1 k (nI r) (nI i)) 13 r (k.1 13 r ||| (1 <<< (nI i &&& 31)))).2 1 = k.2 1 := rfl
  unfold sgS colS
  rw [hk]
  by_cases hc : hasB (k.2 1) (k.1 2 i) = true
  · rw [if_pos hc]
    by_cases hz : z = tn (k.1 2 i)
    · have eB : (if hasB (k.2 1) (k.1 2 i) = true ∧ z = tn (k.1 2 i) then payI (k.1 5 r) lv / 2 else 0) = payI (k.1 5 r) lv / 2 := if_pos ⟨hc, hz⟩
      rw [eB, sU_at]
      have eC : (if z = tn (k.1 2 i) then (col4 (sU (sgt1 k (nI r) (nI i)) 13 r (k.1 13 r ||| (1 <<< (nI i &&& 31)))) r lv).1 5 (tn (k.1 2 i)) + payI ((sU (sgt1 k (nI r) (nI i)) 13 r (k.1 13 r ||| (1 <<< (nI i &&& 31)))).1 5 r) lv / 2 else (col4 (sU (sgt1 k (nI r) (nI i)) 13 r (k.1 13 r ||| (1 <<< (nI i &&& 31)))) r lv).1 5 z) = _ := if_pos hz
      refine eC.trans ?_
      rw [← hz]
      rfl
    · have eB : (if hasB (k.2 1) (k.1 2 i) = true ∧ z = tn (k.1 2 i) then payI (k.1 5 r) lv / 2 else 0) = 0 := if_neg (fun h => hz h.2)
      rw [eB, sU_at, Int32.add_zero]
      exact if_neg hz
  · have eB : (if hasB (k.2 1) (k.1 2 i) = true ∧ z = tn (k.1 2 i) then payI (k.1 5 r) lv / 2 else 0) = 0 := if_neg (fun h => hc h.1)
    rw [if_neg hc, eB, Int32.add_zero]
    rfl
theorem Inv_sgS {N : Nat} {k : Sk} (h : Inv N k) (hN : N + 1 ≤ 1000000) {r i : Nat} (hr : r < k.2 1) (hi : i < k.2 0) (hO : Ok (sgS k r i (levI k (nI r) i))) : Inv (N + 1) (sgS k r i (levI k (nI r) i)) := by
  obtain ⟨v, hv1, hv2⟩ := lev_n h (nI r) hi
  rw [hv1] at hO ⊢
  have hO1 := h.1.1
  have hO2 := h.1.2.1
  obtain ⟨-, hc, hb, hcl, hsi, hex, hro, him⟩ := h
  obtain ⟨g0, g1, g2, g3, g4, g5, g6, g7⟩ := sgS_row k r i (nI v)
  obtain ⟨f3, f12, f13, f6, f8, f9⟩ := sgS_row2 k (r := r) (i := i) (by omega) (by omega) (nI v)
  have f5 := sgS_5 k (r := r) (i := i) (by omega) (by omega) (nI v)
  have hsu := suN_up hi (hsi i hi) (by omega)
  obtain ⟨⟨c1, c2⟩, ⟨d1, d2⟩, -, -⟩ := hro r hr
  have hp := payI_n (c := tn (k.1 5 r)) (v := v) (tn_lt _) (by omega)
  rw [← c1] at hp
  obtain ⟨p, hp1, hp2, hp3⟩ : ∃ p, payI (k.1 5 r) (nI v) = nI p ∧ p ≤ v ∧ p ≤ tn (k.1 5 r) := ⟨_, hp, by split <;> omega, by split <;> omega⟩
  have hh := half_n p (by omega)
  refine ⟨hO, fun g hg => ?_, fun j hj => ?_, fun j hj => ?_, fun j hj => ?_, ?_, fun q hq => ?_, fun w hw => ?_⟩
  · unfold cl; rw [g4]; exact hc g hg
  · rw [g1]; rw [g0] at hj; exact hb j hj
  · rw [g3, g0]; rw [g0] at hj; exact hcl j hj
  · rw [g0] at hj
    rw [f3 j]
    by_cases h9 : j = i
    · subst h9
      rw [if_pos rfl]
      obtain ⟨n1, n2⟩ := nI_tn1 (hsi j hj).1 (hsi j hj).2 (by omega)
      rw [n2]
      exact ⟨n1, by have := (hsi j hj).2; omega⟩
    · rw [if_neg h9]; exact ⟨(hsi j hj).1, by have := (hsi j hj).2; omega⟩
  · rw [g7, g0]
    refine ⟨hex.1, ?_⟩
    rw [show (fun z => tn ((sgS k r i (nI v)).1 3 z)) = fun z => tn (if z = i then k.1 3 i + 1 else k.1 3 z) from funext fun z => by rw [f3 z]]
    rw [hsu]
    exact Nat.le_succ_of_le hex.2
  · rw [g0] at hq
    obtain ⟨d5, d6, d7, d8, a, b, ha, hb2, e1, e2, e3⟩ := hro q hq
    rw [f5 q, f6 q, g5, f8 q, f9 q, f12 q, f13 q, hp1, hh]
    have hadd : ∃ m, (if hasB (k.2 1) (k.1 2 i) = true ∧ q = tn (k.1 2 i) then nI (p / 2) else 0) = nI m ∧ m ≤ 4 := by
      split
      · exact ⟨_, rfl, by omega⟩
      · exact ⟨0, rfl, by decide⟩
    obtain ⟨m, hm1, hm2⟩ := hadd
    rw [hm1]
    by_cases h9 : q = r
    · subst h9
      simp only [if_true]
      refine ⟨?_, ?_, d7, ?_, ?_⟩
      · rw [c1, nI_sub hp3, nI_add, tn_nI (by have := tn_lt (k.1 5 q); omega)]
        exact ⟨rfl, by omega⟩
      · rw [d1, nI_sub hp2, nI_add, tn_nI (by omega)]
        exact ⟨rfl, by omega⟩
      · rw [d8]; grind
      · obtain ⟨o1, o2⟩ := or_bit a ha i (by omega)
        obtain ⟨o3, o4⟩ := or_bit b hb2 i (by omega)
        exact ⟨a ||| 2 ^ i, b ||| 2 ^ i, o2, o4, by rw [e1, o1], by rw [e2, o3], (sub_or ha hb2 (by omega) e3).1⟩
    · simp only [if_neg h9]
      refine ⟨?_, ⟨d6.1, by omega⟩, d7, d8, a, b, ha, hb2, e1, e2, e3⟩
      rw [d5.1, nI_add, tn_nI (by have := d5.2; omega)]
      exact ⟨rfl, by have := d5.2; omega⟩
  · rw [g0] at hw; rw [g6]; exact him w hw
theorem Inv_sgN {N : Nat} {k : Sk} (h : Inv N k) (hN : N + 1 ≤ 1000000) {r i : Nat} (hr : r < k.2 1) (hi : i < k.2 0) (hO : Ok (sgN k r i)) : Inv (N + 1) (sgN k r i) := by
  have hO1 := h.1.1
  have hO2 := h.1.2.1
  have hm := h.mono (Nat.le_succ N)
  obtain ⟨-, hc, hb, hcl, hsi, hex, hro, him⟩ := h
  have e1 : tn (nI r) = r := tn_nI (by omega)
  have e2 : tn (nI i) = i := tn_nI (by omega)
  have f3 : ∀ z, (sgN k r i).1 3 z = if z = i then k.1 3 i + 1 else k.1 3 z := fun z => by unfold sgN sgt1; rw [e1, e2]; rfl
  have f12 : ∀ z, (sgN k r i).1 12 z = if z = r then k.1 12 r ||| (1 <<< (nI i &&& 31)) else k.1 12 z := fun z => by unfold sgN sgt1; rw [e1, e2]; rfl
  have f19 : (sgN k r i).1 19 1 = k.1 19 1 + 1 := rfl
  have hsu := suN_up hi (hsi i hi) (by omega)
  have hle : suN (fun i => tn (k.1 3 i)) (k.2 0) ≤ k.2 0 * N := suN_le _ (fun i hi => (hsi i hi).2)
  have h8 : k.2 0 * N ≤ 8 * 1000000 := Nat.mul_le_mul hO1 (by omega)
  refine ⟨hO, hc, hb, hcl, fun j hj => ?_, ?_, fun q hq => ?_, him⟩
  · have hj : j < k.2 0 := hj
    rw [f3 j]
    by_cases h9 : j = i
    · subst h9
      rw [if_pos rfl]
      obtain ⟨n1, n2⟩ := nI_tn1 (hsi j hj).1 (hsi j hj).2 (by omega)
      rw [n2]
      exact ⟨n1, by have := (hsi j hj).2; omega⟩
    · rw [if_neg h9]; exact ⟨(hsi j hj).1, by have := (hsi j hj).2; omega⟩
  · show (sgN k r i).1 19 1 = _ ∧ tn ((sgN k r i).1 19 1) ≤ suN _ (k.2 0)
    obtain ⟨n1, n2⟩ := nI_tn1 hex.1 hex.2 (by omega)
    rw [show (fun z => tn ((sgN k r i).1 3 z)) = fun z => tn (if z = i then k.1 3 i + 1 else k.1 3 z) from funext fun z => by rw [f3 z]]
    rw [hsu, f19, n2]
    exact ⟨n1, by have := hex.2; omega⟩
  · have hq : q < k.2 1 := hq
    obtain ⟨d5, d6, d7, d8, a, b, ha, hb2, e3, e4, e5⟩ := hm.2.2.2.2.2.2.1 q hq
    refine ⟨d5, d6, d7, d8, ?_⟩
    show ∃ a b, a < 256 ∧ b < 256 ∧ (sgN k r i).1 12 q = nI a ∧ k.1 13 q = nI b ∧ _
    rw [f12 q]
    by_cases h9 : q = r
    · subst h9
      rw [if_pos rfl]
      obtain ⟨o1, o2⟩ := or_bit a ha i (by omega)
      exact ⟨a ||| 2 ^ i, b, o2, hb2, by rw [e3, o1], e4, (sub_or ha hb2 (by omega) e5).2⟩
    · rw [if_neg h9]
      exact ⟨a, b, ha, hb2, e3, e4, e5⟩
theorem Inv_sight {N : Nat} {k : Sk} (h : Inv N k) (hN : N + 1 ≤ 1000000) (E : Nat → Int32) (r x : Int32) : Inv (N + 1) (oSight k E r x).2.1 := by
  have hO : Ok (oSight k E r x).2.1 := Ok_oCmd k E 3 r x 0 h.1
  have hm := h.mono (Nat.le_succ N)
  have hO1 := h.1.1
  have hO2 := h.1.2.1
  by_cases h1 : (hasB (k.2 1) r && hasB (k.2 0) x) = true
  · obtain ⟨⟨hr1, hr2⟩, hx1, hx2⟩ := hasB2 h1 (by omega) (by omega)
    rw [hr1, hx1, oSight_eq hr2 hx2 (by omega) (by omega)] at hO ⊢
    by_cases h2 : k.1 12 (tn r) &&& (1 <<< (nI (tn x) &&& 31)) = 0
    · rw [if_pos h2] at hO ⊢
      by_cases h3 : isSeen k (tn x) = true
      · rw [if_pos h3] at hO ⊢
        exact Inv_sgS h hN hr2 hx2 hO
      · rw [if_neg h3] at hO ⊢
        exact Inv_sgN h hN hr2 hx2 hO
    · rw [if_neg h2]; exact hm
  · unfold oSight
    rw [if_neg h1]; exact hm
theorem sh_bit : ∀ a, a < 256 → ∀ i, i < 8 → ((nI a >>> (nI i &&& 31)) &&& 1 = bI (a.testBit i)) ∧ (nI a &&& (1 <<< (nI i &&& 31)) = 0 ↔ a.testBit i = false) := by decide +kernel
theorem sight_f {N : Nat} {k : Sk} (h : Inv N k) (hN : N ≤ 1000000) (E : Nat → Int32) {r i : Nat} (hr : r < k.2 1) (hi : i < k.2 0) : SGF k r i (oCmd k E 3 (nI r) (nI i) 0).1 (oCmd k E 3 (nI r) (nI i) 0).2.1 (oCmd k E 3 (nI r) (nI i) 0).2.2 := by
  have hO1 := h.1.1
  have hO2 := h.1.2.1
  have e : oCmd k E 3 (nI r) (nI i) 0 = oSight k E (nI r) (nI i) := rfl
  rw [e, oSight_eq hr hi (by omega) (by omega)]
  obtain ⟨d5, d6, d7, d8, a, b, ha, hb2, e1, e2, e3⟩ := h.2.2.2.2.2.2.1 r hr
  obtain ⟨s1, s2⟩ := sh_bit a ha i (by omega)
  obtain ⟨v, hv1, hv2⟩ := lev_n h (nI r) hi
  by_cases h2 : k.1 12 r &&& (1 <<< (nI i &&& 31)) = 0
  · rw [if_pos h2]
    have hbit : a.testBit i = false := s2.mp (by rw [← e1]; exact h2)
    have hsh : (k.1 12 r >>> (nI i &&& 31)) &&& 1 = 0 := by rw [e1, s1, hbit]; rfl
    by_cases h3 : isSeen k i = true
    · rw [if_pos h3]
      obtain ⟨g0, g1, g2, g3, g4, g5, g6, g7⟩ := sgS_row k r i (levI k (nI r) i)
      obtain ⟨f3, f12, f13, f6, f8, f9⟩ := sgS_row2 k (r := r) (i := i) (by omega) (by omega) (levI k (nI r) i)
      have f5 := sgS_5 k (r := r) (i := i) (by omega) (by omega) (levI k (nI r) i)
      refine Or.inr ⟨by show ¬ levI k (nI r) i < 0; rw [hv1]; exact nI_pos (by omega), hsh, rfl, ?_, ?_, ?_, fun h4 h5 => ?_, ?_, g0⟩
      · show (sgS k r i (levI k (nI r) i)).1 5 r = _
        rw [f5 r, if_pos rfl]
        by_cases hz : hasB (k.2 1) (k.1 2 i) = true ∧ r = tn (k.1 2 i)
        · rw [if_pos hz]
          have hcl := hasB_tn hz.1 (by omega)
          have hl0 : levI k (nI r) i = 0 := by
            unfold levI
            rw [if_pos h3, if_pos (by rw [hcl.1, ← hz.2])]
          have hp0 : payI (k.1 5 r) 0 = 0 := by
            have := payI_n (c := tn (k.1 5 r)) (v := 0) (tn_lt _) (by decide)
            rw [← d5.1] at this
            rw [show (0 : Int32) = nI 0 from rfl, this]
            split
            · rfl
            · rw [show tn (k.1 5 r) = 0 by omega]
          rw [hl0, hp0]
          exact Int32.add_zero _
        · rw [if_neg hz, Int32.add_zero]
      · show (sgS k r i (levI k (nI r) i)).1 6 r = _
        rw [f6 r, if_pos rfl]; grind
      · show (sgS k r i (levI k (nI r) i)).1 12 r = _
        rw [f12 r, if_pos rfl]
      · show (sgS k r i (levI k (nI r) i)).1 5 (tn (k.1 2 i)) = _
        obtain ⟨q1, q2⟩ := (h.2.2.2.1 i hi).resolve_left h4
        have hz : hasB (k.2 1) (k.1 2 i) = true := by rw [q1]; exact hasB_nI q2 (by omega)
        have hne : ¬ tn (k.1 2 i) = r := fun h9 => h5 (by rw [q1, h9])
        rw [f5, if_neg hne, if_pos ⟨hz, rfl⟩]
      · show ((sgS k r i (levI k (nI r) i)).1 13 r >>> (nI i &&& 31)) &&& 1 = bI (isSeen (sgS k r i (levI k (nI r) i)) i)
        have hse : isSeen (sgS k r i (levI k (nI r) i)) i = isSeen k i := by unfold isSeen sN; rw [g1, g2, g4]
        rw [f13 r, if_pos rfl, hse, h3, e2, (or_bit b hb2 i (by omega)).1, (sh_bit _ (or_bit b hb2 i (by omega)).2 i (by omega)).1, Nat.testBit_or, Nat.testBit_two_pow_self, Bool.or_true]
    · rw [if_neg h3]
      have hl0 : levI k (nI r) i = 0 := by unfold levI; rw [if_neg h3]
      have hp0 : payI (k.1 5 r) 0 = 0 := by
        have := payI_n (c := tn (k.1 5 r)) (v := 0) (tn_lt _) (by decide)
        rw [← d5.1] at this
        rw [show (0 : Int32) = nI 0 from rfl, this]
        split
        · rfl
        · rw [show tn (k.1 5 r) = 0 by omega]
      have t1 : tn (nI r) = r := tn_nI (by omega)
      have t2 : tn (nI i) = i := tn_nI (by omega)
      refine Or.inr ⟨by show ¬ (0 : Int32) < 0; decide, hsh, by rw [hl0], ?_, ?_, ?_, fun h4 h5 => ?_, ?_, rfl⟩
      · rw [hl0, hp0]; show k.1 5 r = k.1 5 r - 0; grind
      · rw [hl0, hp0]; show k.1 6 r = k.1 6 r + 0 - 0; grind
      · show (sgN k r i).1 12 r = _
        unfold sgN sgt1
        rw [t1, t2]
        show (if r = r then _ else _) = _
        rw [if_pos rfl]
      · rw [hl0, hp0]
        show k.1 5 (tn (k.1 2 i)) = k.1 5 (tn (k.1 2 i)) + 0 / 2
        rw [show (0 : Int32) / 2 = 0 from by decide, Int32.add_zero]
      · show (k.1 13 r >>> (nI i &&& 31)) &&& 1 = bI (isSeen k i)
        have hb3 : b.testBit i = false := by
          cases hb9 : b.testBit i with
          | false => rfl
          | true => have := (tb_sub hb2 ha).mp e3 i (by omega) hb9; rw [hbit] at this; cases this
        rw [e2, (sh_bit b hb2 i (by omega)).1, hb3]
        cases hs : isSeen k i
        · rfl
        · exact absurd hs h3
  · rw [if_neg h2]
    have hbit : a.testBit i = true := by
      cases h9 : a.testBit i with
      | true => rfl
      | false => exact absurd (by rw [e1]; exact s2.mpr h9) h2
    exact Or.inl ⟨rfl, by rw [e1, s1, hbit]; rfl, rfl, rfl, rfl⟩
