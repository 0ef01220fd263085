/-! orders -/
theorem fnd_none {P : Nat → Bool} {d : Int32} : ∀ n j, (∀ z, j ≤ z → z < j + n → P z = false) → fnd P d n j = d := by
  intro n
  induction n with
  | zero => intro j _; rfl
  | succ n ih =>
    intro j h
    show (if P j = true then nI j else fnd P d n (j + 1)) = d
    rw [h j (Nat.le_refl j) (by omega), if_neg (by decide)]
    exact ih (j + 1) (fun z h1 h2 => h z (by omega) (by omega))
theorem fnd_some {P : Nat → Bool} {d : Int32} {a : Nat} (ha : P a = true) : ∀ n j, j ≤ a → a < j + n → (∀ z, j ≤ z → z < j + n → P z = true → z = a) → fnd P d n j = nI a := by
  intro n
  induction n with
  | zero => intro j h1 h2; omega
  | succ n ih =>
    intro j h1 h2 h3
    show (if P j = true then nI j else fnd P d n (j + 1)) = nI a
    by_cases hj : P j = true
    · rw [if_pos hj, h3 j (Nat.le_refl j) (by omega) hj]
    · rw [if_neg hj]
      have hne : j ≠ a := fun h => hj (h ▸ ha)
      exact ih (j + 1) (by omega) (by omega) (fun z a1 a2 => h3 z (by omega) (by omega))
theorem cN_le1 {p : Nat → Bool} : ∀ n, (∀ i j, i < n → j < n → p i = true → p j = true → i = j) → cN p n ≤ 1 := by
  intro n
  induction n with
  | zero => intro _; exact Nat.zero_le 1
  | succ n ih =>
    intro h
    have h1 := ih (fun i j hi hj => h i j (by omega) (by omega))
    show cN p n + (if p n then 1 else 0) ≤ 1
    cases hp : p n
    · simpa using h1
    · have : cN p n = 0 := cN_none n (fun i hi => by
        cases hi2 : p i
        · rfl
        · have := h i n (by omega) (by omega) hi2 hp; omega)
      rw [this]; decide
theorem suN_full {F : Nat → Nat} : ∀ n, (∀ i, i < n → F i ≤ 1) → suN F n = n → ∀ i, i < n → F i = 1 := by
  intro n
  induction n with
  | zero => intro _ _ i hi; omega
  | succ n ih =>
    intro h1 h2 i hi
    have h3 := h1 n (by omega)
    have h4 : suN F n ≤ n * 1 := suN_le n (fun i hi => h1 i (by omega))
    have h2 : suN F n + F n = n + 1 := h2
    by_cases h9 : i = n
    · subst h9; omega
    · exact ih (fun i hi => h1 i (by omega)) (by omega) i (by omega)
/-- a strict order by two keys and the place -/
def Ord3 (B : Nat → Nat → Bool) (n : Nat) (K1 K2 : Nat → Int) : Prop := ∀ i j, i < n → j < n → (B i j = true ↔ K1 i < K1 j ∨ K1 i = K1 j ∧ (K2 i < K2 j ∨ K2 i = K2 j ∧ i < j))
def rkB (B : Nat → Nat → Bool) (n j : Nat) : Nat := cN (fun z => B z j) n
theorem rk_lt {B : Nat → Nat → Bool} {n : Nat} {K1 K2 : Nat → Int} (h : Ord3 B n K1 K2) {a b : Nat} (ha : a < n) (hb : b < n) (hab : B a b = true) : rkB B n a < rkB B n b := by
  have hs : sbs (fun z => B z a) (fun z => B z b) n := fun z hz hza => by
    have h1 := (h z a hz ha).mp hza
    have h2 := (h a b ha hb).mp hab
    exact (h z b hz hb).mpr (by omega)
  have h1 := cN_sub hs
  rcases Nat.lt_or_eq_of_le h1 with h2 | h2
  · exact h2
  · have h3 := cN_full hs h2 a ha
    have h3 : B a a = B a b := h3
    rw [hab] at h3
    have := (h a a ha ha).mp h3
    omega
theorem rk_n {B : Nat → Nat → Bool} {n : Nat} {K1 K2 : Nat → Int} (h : Ord3 B n K1 K2) {a : Nat} (ha : a < n) : rkB B n a < n := by
  have h1 := cN_le (fun z => B z a) n
  rcases Nat.lt_or_eq_of_le h1 with h2 | h2
  · exact h2
  · have h3 := cN_full (q := fun z => B z a) (p := fun _ => true) (fun _ _ _ => rfl) (h2.trans (cN_all n (fun _ _ => rfl)).symm) a ha
    have := (h a a ha ha).mp h3
    omega
theorem rk_inj {B : Nat → Nat → Bool} {n : Nat} {K1 K2 : Nat → Int} (h : Ord3 B n K1 K2) {a b : Nat} (ha : a < n) (hb : b < n) (e : rkB B n a = rkB B n b) : a = b := by
  by_cases h9 : a = b
  · exact h9
  · have : B a b = true ∨ B b a = true := by
      rcases (show (K1 a < K1 b ∨ K1 a = K1 b ∧ (K2 a < K2 b ∨ K2 a = K2 b ∧ a < b)) ∨ (K1 b < K1 a ∨ K1 b = K1 a ∧ (K2 b < K2 a ∨ K2 b = K2 a ∧ b < a)) by omega) with h1 | h1
      · exact Or.inl ((h a b ha hb).mpr h1)
      · exact Or.inr ((h b a hb ha).mpr h1)
    rcases this with h1 | h1
    · have := rk_lt h ha hb h1; omega
    · have := rk_lt h hb ha h1; omega
theorem rk_ex {B : Nat → Nat → Bool} {n : Nat} {K1 K2 : Nat → Int} (h : Ord3 B n K1 K2) {p : Nat} (hp : p < n) : ∃ a, a < n ∧ rkB B n a = p := by
  have h1 : suN (fun p => cN (fun j => decide (rkB B n j = p)) n) n = n := by
    rw [show suN (fun p => cN (fun j => decide (rkB B n j = p)) n) n = suN (fun p => suN (fun j => if decide (rkB B n j = p) = true then 1 else 0) n) n from suN_ext n (fun r _ => cN_su _ n), suN_swap]
    rw [show suN (fun w => suN (fun r => if decide (rkB B n w = r) = true then 1 else 0) n) n = suN (fun _ => 1) n from suN_ext n (fun w hw => by
      rw [suN_one (F := fun r => if decide (rkB B n w = r) = true then 1 else 0) (rk_n h hw) (fun i _ hne => by have h9 : ¬ rkB B n w = i := fun h9 => hne h9.symm; simp [h9])]
      simp)]
    rw [← cN_all (p := fun _ => true) n (fun _ _ => rfl), cN_su]
    congr 1
    rw [← cN_su, cN_all n (fun _ _ => rfl)]
  have h2 := suN_full n (fun p _ => cN_le1 n (fun i j hi hj e1 e2 => rk_inj h hi hj (by simp at e1 e2; omega))) h1 p hp
  obtain ⟨a, a1, a2⟩ := cN_pos (q := fun j => decide (rkB B n j = p)) (n := n) (by omega)
  exact ⟨a, a1, by simpa using a2⟩
theorem rk_find {B : Nat → Nat → Bool} {n : Nat} {K1 K2 : Nat → Int} (h : Ord3 B n K1 K2) (hn : n < 1000) {a p : Nat} (ha : a < n) (hp : rkB B n a = p) : fnd (fun z => decide (nI (cN (fun y => B y z) n) = nI p)) (-1) n 0 = nI a := by
  refine fnd_some (by show decide (nI (rkB B n a) = nI p) = true; rw [hp]; simp) n 0 (Nat.zero_le _) (by omega) (fun z _ hz hP => ?_)
  have hP : decide (nI (rkB B n z) = nI p) = true := hP
  have h1 := cN_le (fun y => B y z) n
  have h2 := rk_n h ha
  have h3 : rkB B n z ≤ n := h1
  exact rk_inj h (by omega) ha (by rw [hp]; exact (nI_eq (by omega) (by omega)).mp (by simpa using hP))
theorem rk_no {B : Nat → Nat → Bool} {n : Nat} {K1 K2 : Nat → Int} (h : Ord3 B n K1 K2) (hn : n < 1000) {x : Int32} (hx : x = nI n ∨ x = -1) : fnd (fun z => decide (nI (cN (fun y => B y z) n) = x)) (-1) n 0 = -1 := by
  refine fnd_none n 0 (fun z _ hz => ?_)
  have h2 := rk_n h (a := z) (by omega)
  show decide (nI (rkB B n z) = x) = false
  refine decide_eq_false (fun h9 => ?_)
  rcases hx with rfl | rfl
  · have := (nI_eq (by omega) (by omega)).mp h9; omega
  · have := nI_pos (n := rkB B n z) (by omega); rw [h9] at this; exact this (by decide)
theorem rk_next {B : Nat → Nat → Bool} {n : Nat} {K1 K2 : Nat → Int} (h : Ord3 B n K1 K2) (hn : n < 1000) {p : Nat} (h1 : 1 ≤ p) (hp : p < n) : ∃ a b, a < n ∧ b < n ∧ fnd (fun z => decide (nI (cN (fun y => B y z) n) = nI (p - 1))) (-1) n 0 = nI a ∧ fnd (fun z => decide (nI (cN (fun y => B y z) n) = nI p)) (-1) n 0 = nI b ∧ (K1 a < K1 b ∨ K1 a = K1 b ∧ (K2 a < K2 b ∨ K2 a = K2 b ∧ a < b)) := by
  obtain ⟨a, a1, a2⟩ := rk_ex h (p := p - 1) (by omega)
  obtain ⟨b, b1, b2⟩ := rk_ex h hp
  refine ⟨a, b, a1, b1, rk_find h hn a1 a2, rk_find h hn b1 b2, ?_⟩
  by_cases h9 : B a b = true
  · exact (h a b a1 b1).mp h9
  · have h10 : ¬ (K1 a < K1 b ∨ K1 a = K1 b ∧ (K2 a < K2 b ∨ K2 a = K2 b ∧ a < b)) := fun h => h9 ((‹Ord3 B n K1 K2› a b a1 b1).mpr h)
    have hne : a ≠ b := fun e => by rw [e] at a2; omega
    have h11 : B b a = true := (h b a b1 a1).mpr (by omega)
    have := rk_lt h b1 a1 h11
    omega
theorem brB_ord (k : Sk) {n : Nat} (hn : n < 1000) : Ord3 (brB k) n (fun i => -(k.1 0 i).toInt) (fun i => -(k.1 3 i).toInt) := by
  intro i j hi hj
  dsimp only
  unfold brB
  by_cases h0 : k.1 0 i = k.1 0 j
  · rw [if_pos h0]
    have e0 := congrArg Int32.toInt h0
    by_cases h3 : k.1 3 i = k.1 3 j
    · have e3 := congrArg Int32.toInt h3
      rw [if_pos h3, decide_eq_true_eq, nI_ltI (by omega) (by omega)]
      omega
    · have e3 : ¬ (k.1 3 i).toInt = (k.1 3 j).toInt := fun h => h3 (Int32.toInt_inj.mp h)
      rw [if_neg h3, decide_eq_true_eq, Int32.lt_iff_toInt_lt]
      omega
  · have e0 : ¬ (k.1 0 i).toInt = (k.1 0 j).toInt := fun h => h0 (Int32.toInt_inj.mp h)
    rw [if_neg h0, decide_eq_true_eq, Int32.lt_iff_toInt_lt]
    omega
theorem riB_ord (k : Sk) {n : Nat} (hn : n < 1000) (hO : Ok k) : Ord3 (riB k) n (fun r => -(k.1 5 r - k.1 6 r).toInt) (fun r => (cWr k r : Int)) := by
  intro i j hi hj
  dsimp only
  have hO3 := hO.2.2.1
  have w1 := cN_le (fun z => decide (k.1 14 z = nI i)) (k.2 2)
  have w2 := cN_le (fun z => decide (k.1 14 z = nI j)) (k.2 2)
  have w1 : cWr k i ≤ k.2 2 := w1
  have w2 : cWr k j ≤ k.2 2 := w2
  unfold riB
  by_cases h0 : k.1 5 i - k.1 6 i = k.1 5 j - k.1 6 j
  · rw [if_pos h0]
    have e0 := congrArg Int32.toInt h0
    by_cases h3 : nI (cWr k i) = nI (cWr k j)
    · have e3 := (nI_eq (by omega) (by omega)).mp h3
      rw [if_pos h3, decide_eq_true_eq, nI_ltI (by omega) (by omega)]
      omega
    · have e3 : ¬ cWr k i = cWr k j := fun h => h3 (by rw [h])
      rw [if_neg h3, decide_eq_true_eq, nI_ltI (by omega) (by omega)]
      omega
  · have e0 : ¬ (k.1 5 i - k.1 6 i).toInt = (k.1 5 j - k.1 6 j).toInt := fun h => h0 (Int32.toInt_inj.mp h)
    rw [if_neg h0, decide_eq_true_eq, Int32.lt_iff_toInt_lt]
    omega
theorem sub_toInt {x y : Int32} (h1 : -1000000000 ≤ x.toInt) (h2 : x.toInt ≤ 1000000000) (h3 : -1000000000 ≤ y.toInt) (h4 : y.toInt ≤ 1000000000) : (x - y).toInt = x.toInt - y.toInt := by
  rw [Int32.toInt_sub]
  exact Int.bmod_eq_of_le (by omega) (by omega)
theorem add_toInt {x y : Int32} (h1 : -1000000000 ≤ x.toInt) (h2 : x.toInt ≤ 1000000000) (h3 : -1000000000 ≤ y.toInt) (h4 : y.toInt ≤ 1000000000) : (x + y).toInt = x.toInt + y.toInt := by
  rw [Int32.toInt_add]
  exact Int.bmod_eq_of_le (by omega) (by omega)
theorem sub_pos {x y : Int32} (h1 : -1000000000 ≤ x.toInt) (h2 : x.toInt ≤ 1000000000) (h3 : -1000000000 ≤ y.toInt) (h4 : y.toInt ≤ 1000000000) : (0 < x - y ↔ y.toInt < x.toInt) ∧ (x - y = 0 ↔ x.toInt = y.toInt) := by
  have e := sub_toInt h1 h2 h3 h4
  constructor
  · rw [Int32.lt_iff_toInt_lt, e, show (0 : Int32).toInt = 0 from rfl]; omega
  · rw [← Int32.toInt_inj, e, show (0 : Int32).toInt = 0 from rfl]; omega
/-- the cheapest star -/
theorem cs_spec (k : Sk) (r : Nat) : ∀ n, n ≤ 8 → (csR k r n = -4 ∧ ∀ i, i < n → opB k r i = false) ∨ ∃ w, w < n ∧ csR k r n = nI w ∧ ∀ i, i < n → opB k r i = true → levI k (nI r) w ≤ levI k (nI r) i := by
  intro n
  induction n with
  | zero => intro _; exact Or.inl ⟨rfl, fun i hi => absurd hi (Nat.not_lt_zero i)⟩
  | succ n ih =>
    intro hn
    have ih := ih (by omega)
    have hs : csR k r (n + 1) = if opB k r n = true then (if csR k r n = -4 then nI n else if chB k r n (csR k r n).toNatClampNeg = true then nI n else csR k r n) else csR k r n := rfl
    rw [hs]
    by_cases hop : opB k r n = true
    · rw [if_pos hop]
      rcases ih with ⟨h1, h2⟩ | ⟨w, h1, h2, h3⟩
      · rw [if_pos h1]
        refine Or.inr ⟨n, by omega, rfl, fun i hi hb => ?_⟩
        by_cases h9 : i = n
        · subst h9; exact Int32.le_refl _
        · rw [h2 i (by omega)] at hb; cases hb
      · rw [h2, if_neg (ne_m4 (by omega)), nI_clamp (by omega)]
        by_cases hch : chB k r n w = true
        · rw [if_pos hch]
          have hle : levI k (nI r) n ≤ levI k (nI r) w := by
            unfold chB at hch
            by_cases h9 : levI k (nI r) n = levI k (nI r) w
            · rw [h9]; exact Int32.le_refl _
            · rw [if_neg h9] at hch
              exact Int32.le_of_lt (of_decide_eq_true hch)
          refine Or.inr ⟨n, by omega, rfl, fun i hi hb => ?_⟩
          by_cases h9 : i = n
          · subst h9; exact Int32.le_refl _
          · exact Int32.le_trans hle (h3 i (by omega) hb)
        · rw [if_neg hch]
          have hle : levI k (nI r) w ≤ levI k (nI r) n := by
            unfold chB at hch
            by_cases h9 : levI k (nI r) n = levI k (nI r) w
            · rw [h9]; exact Int32.le_refl _
            · rw [if_neg h9] at hch
              exact Int32.not_lt.mp (fun h => hch (decide_eq_true h))
          refine Or.inr ⟨w, by omega, rfl, fun i hi hb => ?_⟩
          by_cases h9 : i = n
          · subst h9; exact hle
          · exact h3 i (by omega) hb
    · rw [if_neg hop]
      rcases ih with ⟨h1, h2⟩ | ⟨w, h1, h2, h3⟩
      · refine Or.inl ⟨h1, fun i hi => ?_⟩
        by_cases h9 : i = n
        · subst h9; simpa using hop
        · exact h2 i (by omega)
      · refine Or.inr ⟨w, by omega, h2, fun i hi hb => ?_⟩
        by_cases h9 : i = n
        · subst h9; exact absurd hb hop
        · exact h3 i (by omega) hb
theorem Inv.OF {N : Nat} {k : Sk} (h : Inv N k) (hN : N ≤ 1000000) : OF k := by
  obtain ⟨hO, hc, hb, hcl, hsi, hex, hro, him⟩ := id h
  have hO1 := hO.1
  have hO2 := hO.2.1
  have hO3 := hO.2.2.1
  have hS := brB_ord k (n := k.2 0) (by omega)
  have hR := riB_ord k (n := k.2 1) (by omega) hO
  refine ⟨rk_no hR (by omega) (Or.inl rfl), rk_no hS (by omega) (Or.inl rfl), rk_no hS (by omega) (Or.inr rfl), fun p h1 hp => ?_, fun p h1 hp => ?_, fun r hr => ?_, fun r hr i hi hop => ?_⟩
  · obtain ⟨a, b, ha, hb9, ea, eb, hlex⟩ := rk_next hR (by omega) h1 hp
    refine ⟨a, b, ha, hb9, ea, eb, ?_⟩
    obtain ⟨⟨c1, c2⟩, ⟨d1, d2⟩, -⟩ := hro a ha
    obtain ⟨⟨c3, c4⟩, ⟨d3, d4⟩, -⟩ := hro b hb9
    have t1 : (k.1 5 a).toInt = tn (k.1 5 a) := by rw [c1, nI_toInt (tn_lt _), tn_nI (tn_lt _)]
    have t2 : (k.1 6 a).toInt = tn (k.1 6 a) := by rw [d1, nI_toInt (tn_lt _), tn_nI (tn_lt _)]
    have t3 : (k.1 5 b).toInt = tn (k.1 5 b) := by rw [c3, nI_toInt (tn_lt _), tn_nI (tn_lt _)]
    have t4 : (k.1 6 b).toInt = tn (k.1 6 b) := by rw [d3, nI_toInt (tn_lt _), tn_nI (tn_lt _)]
    have s1 := sub_toInt (x := k.1 5 a) (y := k.1 6 a) (by omega) (by omega) (by omega) (by omega)
    have s2 := sub_toInt (x := k.1 5 b) (y := k.1 6 b) (by omega) (by omega) (by omega) (by omega)
    have s3 := sub_toInt (x := k.1 5 a - k.1 6 a) (y := k.1 5 b) (by omega) (by omega) (by omega) (by omega)
    have s4 := add_toInt (x := k.1 5 a - k.1 6 a - k.1 5 b) (y := k.1 6 b) (by omega) (by omega) (by omega) (by omega)
    have w1 : cWr k a ≤ k.2 2 := cN_le _ _
    have w2 : cWr k b ≤ k.2 2 := cN_le _ _
    have e2 : ∀ r, roofV k r 2 = nI (cWr k r) := fun _ => rfl
    have u1 : (nI (cWr k a)).toInt = cWr k a := nI_toInt (by omega)
    have u2 : (nI (cWr k b)).toInt = cWr k b := nI_toInt (by omega)
    have s5 := sub_pos (x := nI (cWr k b)) (y := nI (cWr k a)) (by omega) (by omega) (by omega) (by omega)
    rw [e2, e2, s5.1, s5.2, u1, u2, Int32.lt_iff_toInt_lt, ← Int32.toInt_inj, s4, show (0 : Int32).toInt = 0 from rfl, nI_ltI (by omega) (by omega)]
    have hlex : -(k.1 5 a - k.1 6 a).toInt < -(k.1 5 b - k.1 6 b).toInt ∨ -(k.1 5 a - k.1 6 a).toInt = -(k.1 5 b - k.1 6 b).toInt ∧ ((cWr k a : Int) < cWr k b ∨ (cWr k a : Int) = cWr k b ∧ a < b) := hlex
    omega
  · obtain ⟨a, b, ha, hb9, ea, eb, hlex⟩ := rk_next hS (by omega) h1 hp
    refine ⟨a, b, ha, hb9, ea, eb, ?_⟩
    obtain ⟨c1, -, c2⟩ := hb a ha
    obtain ⟨c3, -, c4⟩ := hb b hb9
    obtain ⟨d1, d2⟩ := hsi a ha
    obtain ⟨d3, d4⟩ := hsi b hb9
    have t1 : (k.1 0 a).toInt = tn (k.1 0 a) := by rw [c1, nI_toInt (tn_lt _), tn_nI (tn_lt _)]
    have t2 : (k.1 0 b).toInt = tn (k.1 0 b) := by rw [c3, nI_toInt (tn_lt _), tn_nI (tn_lt _)]
    have t3 : (k.1 3 a).toInt = tn (k.1 3 a) := by rw [d1, nI_toInt (tn_lt _), tn_nI (tn_lt _)]
    have t4 : (k.1 3 b).toInt = tn (k.1 3 b) := by rw [d3, nI_toInt (tn_lt _), tn_nI (tn_lt _)]
    have s1 := sub_pos (x := k.1 0 a) (y := k.1 0 b) (by omega) (by omega) (by omega) (by omega)
    have s2 := sub_pos (x := k.1 3 a) (y := k.1 3 b) (by omega) (by omega) (by omega) (by omega)
    rw [s1.1, s1.2, s2.1, s2.2, nI_ltI (by omega) (by omega)]
    have hlex : -(k.1 0 a).toInt < -(k.1 0 b).toInt ∨ -(k.1 0 a).toInt = -(k.1 0 b).toInt ∧ (-(k.1 3 a).toInt < -(k.1 3 b).toInt ∨ -(k.1 3 a).toInt = -(k.1 3 b).toInt ∧ a < b) := hlex
    omega
  · obtain ⟨-, -, -, -, a, b, e1, -, e2, -⟩ := hro r hr
    exact ⟨a, e1, e2⟩
  · rcases cs_spec k r (k.2 0) hO1 with ⟨-, h2⟩ | ⟨w, h1, h2, h3⟩
    · rw [h2 i hi] at hop; cases hop
    · rw [h2, nI_clamp (by omega)]
      exact ⟨ne_m4 (by omega), h3 i hi hop⟩
