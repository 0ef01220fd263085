theorem nI_inj {a b : Nat} (h : nI a = nI b) (ha : a < 2 ^ 31) (hb : b < 2 ^ 31) : a = b := (nI_eq ha hb).mp h
theorem tn_lt (x : Int32) : tn x < 2 ^ 31 := by
  have h1 : x.toInt < 2 ^ 31 := Int32.toInt_lt x
  have h2 : (tn x : Int) = max x.toInt 0 := Int.toNat_eq_max x.toInt
  omega
/-- a sum of naturals, within the ints -/
theorem sI_nI {F : Nat → Int32} (n : Nat) (h : ∀ i, i < n → F i = nI (tn (F i))) : sI F n = nI (suN (fun i => tn (F i)) n) := by
  induction n with
  | zero => rfl
  | succ n ih =>
    show sI F n + F n = nI (suN _ n + tn (F n))
    rw [ih (fun i hi => h i (by omega)), h n (by omega), ← nI_add, tn_nI (by exact tn_lt _)]
theorem suN_le {F : Nat → Nat} {c : Nat} (n : Nat) (h : ∀ i, i < n → F i ≤ c) : suN F n ≤ n * c := by
  induction n with
  | zero => exact Nat.zero_le _
  | succ n ih =>
    have := ih (fun i hi => h i (by omega))
    have h2 := h n (by omega)
    show suN F n + F n ≤ _
    rw [Nat.succ_mul]
    omega
theorem Inv.exempt {N : Nat} {k : Sk} (h : Inv N k) (hN : N ≤ 1000000) : ¬ sI (k.1 3) (k.2 0) < k.1 19 1 := by
  have h5 := h.2.2.2.2.1
  have h6 := h.2.2.2.2.2.1
  have hO := h.1.1
  have hle : suN (fun i => tn (k.1 3 i)) (k.2 0) ≤ k.2 0 * N := suN_le _ (fun i hi => (h5 i hi).2)
  have h8 : k.2 0 * N ≤ 8 * 1000000 := Nat.mul_le_mul hO hN
  rw [sI_nI _ (fun i hi => (h5 i hi).1), h6.1]
  exact nI_nlt h6.2 (by omega)
/-! counting -/
theorem cN_ext {p q : Nat → Bool} (n : Nat) (h : ∀ i, i < n → p i = q i) : cN p n = cN q n := by
  induction n with
  | zero => rfl
  | succ n ih =>
    show cN p n + (if p n then 1 else 0) = cN q n + (if q n then 1 else 0)
    rw [ih (fun i hi => h i (by omega)), h n (by omega)]
theorem cN_all {p : Nat → Bool} (n : Nat) (h : ∀ i, i < n → p i = true) : cN p n = n := by
  induction n with
  | zero => rfl
  | succ n ih =>
    show cN p n + (if p n then 1 else 0) = n + 1
    rw [ih (fun i hi => h i (by omega)), h n (by omega)]
    rfl
theorem cN_none {p : Nat → Bool} (n : Nat) (h : ∀ i, i < n → p i = false) : cN p n = 0 := by
  induction n with
  | zero => rfl
  | succ n ih =>
    show cN p n + (if p n then 1 else 0) = 0
    rw [ih (fun i hi => h i (by omega)), h n (by omega)]
    rfl
theorem suN_ext {F G : Nat → Nat} (n : Nat) (h : ∀ i, i < n → F i = G i) : suN F n = suN G n := by
  induction n with
  | zero => rfl
  | succ n ih =>
    show suN F n + F n = suN G n + G n
    rw [ih (fun i hi => h i (by omega)), h n (by omega)]
theorem suN_add (F G : Nat → Nat) (n : Nat) : suN (fun i => F i + G i) n = suN F n + suN G n := by
  induction n with
  | zero => rfl
  | succ n ih =>
    show suN _ n + (F n + G n) = (suN F n + F n) + (suN G n + G n)
    rw [ih]
    omega
theorem suN_0 (n : Nat) : suN (fun _ => 0) n = 0 := by
  induction n with
  | zero => rfl
  | succ n ih => show suN _ n + 0 = 0; rw [ih]
/-- one place alone -/
theorem suN_one {F : Nat → Nat} {n j : Nat} (hj : j < n) (h : ∀ i, i < n → i ≠ j → F i = 0) : suN F n = F j := by
  induction n with
  | zero => omega
  | succ n ih =>
    show suN F n + F n = F j
    by_cases e : j = n
    · subst e
      rw [show suN F j = 0 from (suN_ext j (fun i hi => h i (by omega) (by omega))).trans (suN_0 j)]
      omega
    · rw [ih (by omega) (fun i hi => h i (by omega)), h n (by omega) (by omega)]
      omega
theorem cN_su (p : Nat → Bool) (n : Nat) : cN p n = suN (fun i => if p i then 1 else 0) n := by
  induction n with
  | zero => rfl
  | succ n ih => show cN p n + _ = suN _ n + _; rw [ih]
theorem suN_swap (F : Nat → Nat → Nat) (m n : Nat) : suN (fun r => suN (fun w => F r w) n) m = suN (fun w => suN (fun r => F r w) m) n := by
  induction m with
  | zero => exact (suN_0 n).symm
  | succ m ih =>
    show suN _ m + suN _ n = _
    rw [ih, ← suN_add]
    rfl
/-- what is told by owners is all -/
theorem own_sum {F : Nat → Int32} {p : Nat → Bool} {m n : Nat} (hm : m < 1000) (h : ∀ w, w < n → p w = true → ∃ r, r < m ∧ F w = nI r) : suN (fun r => cN (fun w => decide (F w = nI r) && p w) n) m = cN p n := by
  rw [show suN (fun r => cN (fun w => decide (F w = nI r) && p w) n) m = suN (fun r => suN (fun w => if (decide (F w = nI r) && p w) = true then 1 else 0) n) m from suN_ext m (fun r _ => cN_su _ n), suN_swap, cN_su]
  refine suN_ext n (fun w hw => ?_)
  cases hp : p w with
  | false =>
    rw [show suN (fun r => if (decide (F w = nI r) && false) = true then 1 else 0) m = suN (fun _ => 0) m from suN_ext m (fun r _ => by simp), suN_0]
    rfl
  | true =>
    obtain ⟨r, hr, e⟩ := h w hw hp
    rw [suN_one hr (fun i hi hne => ?_)]
    · rw [e]; simp
    · have : ¬ F w = nI i := fun h9 => hne ((nI_eq (by omega) (by omega)).mp (h9.symm.trans e))
      simp [this]
/-! the stars that are seen, told by brightness -/
theorem gS_su (F : Nat → Nat) (a n : Nat) : gS F a n = suN (fun j => F (a + j)) n := by
  induction n with
  | zero => rfl
  | succ n ih => show gS F a n + _ = suN _ n + _; rw [ih]
theorem Inv.seen {N : Nat} {k : Sk} (h : Inv N k) {g : Nat} (hg : g < 4) : seenN k g = seenA k g := by
  have hO := h.1
  have hc := h.2.1 g hg
  have hb := h.2.2.1
  unfold seenN seenA
  rw [gS_su]
  congr 1
  have e : (fun j => cBr k (nI g) (nI (cl k g + 1 + j))) = fun j => cN (fun z => decide (k.1 1 z = nI g) && decide (k.1 0 z = nI (cl k g + 1 + j))) (k.2 0) := rfl
  show _ = suN (fun j => cBr k (nI g) (nI (cl k g + 1 + j))) _
  rw [e]
  rw [show suN (fun j => cN (fun z => decide (k.1 1 z = nI g) && decide (k.1 0 z = nI (cl k g + 1 + j))) (k.2 0)) (9 - cl k g) = suN (fun j => suN (fun z => if (decide (k.1 1 z = nI g) && decide (k.1 0 z = nI (cl k g + 1 + j))) = true then 1 else 0) (k.2 0)) (9 - cl k g) from suN_ext _ (fun r _ => cN_su _ _), suN_swap, cN_su]
  refine suN_ext _ (fun z hz => ?_)
  obtain ⟨b1, b2, b3⟩ := hb z hz
  by_cases hs : k.1 1 z = nI g
  · have es : isSeen k z = decide (cl k g < tn (k.1 0 z)) := by
      unfold isSeen
      have e1 : sN k z = g := by unfold sN; rw [hs]; exact nI_clamp (by omega)
      rw [e1, hc.1, b1, tn_nI (tn_lt _)]
      rw [decide_eq_decide]
      exact nI_ltI (by omega) (by omega)
    rw [es, decide_eq_true hs]
    simp only [Bool.true_and]
    by_cases hl : cl k g < tn (k.1 0 z)
    · rw [decide_eq_true hl, suN_one (j := tn (k.1 0 z) - cl k g - 1) (by omega) (fun i hi hne => ?_)]
      · rw [show cl k g + 1 + (tn (k.1 0 z) - cl k g - 1) = tn (k.1 0 z) by omega, ← b1]
        simp
      · have : ¬ k.1 0 z = nI (cl k g + 1 + i) := fun h9 => by
          have := (nI_eq (by omega) (by omega)).mp (b1.symm.trans h9)
          omega
        simp [this]
    · rw [decide_eq_false hl]
      rw [show suN (fun r => if decide (k.1 0 z = nI (cl k g + 1 + r)) = true then 1 else 0) (9 - cl k g) = suN (fun _ => 0) (9 - cl k g) from suN_ext _ (fun i hi => ?_), suN_0]
      · rfl
      · have : ¬ k.1 0 z = nI (cl k g + 1 + i) := fun h9 => by
          have := (nI_eq (by omega) (by omega)).mp (b1.symm.trans h9)
          omega
        simp [this]
  · rw [decide_eq_false hs]
    simp only [Bool.false_and]
    rw [show suN (fun r => if false = true then 1 else 0) (9 - cl k g) = suN (fun _ => 0) (9 - cl k g) from suN_ext _ (fun i hi => by simp), suN_0]
    rfl
/-! the most wishes that can be redeemed: the cheapest first, and by trying every set -/
def cst (C : Nat → Nat) (p : Nat → Bool) (n : Nat) : Nat := suN (fun j => if p j then C j else 0) n
def sbs (q p : Nat → Bool) (n : Nat) : Prop := ∀ j, j < n → q j = true → p j = true
def IsBest (C : Nat → Nat) (n : Nat) (p : Nat → Bool) (M b : Nat) : Prop := (∃ q, sbs q p n ∧ cst C q n ≤ M ∧ cN q n = b) ∧ ∀ q, sbs q p n → cst C q n ≤ M → cN q n ≤ b
def rmP (p : Nat → Bool) (w : Nat) : Nat → Bool := fun j => p j && !(decide (j = w))
def inP (p : Nat → Bool) (w : Nat) : Nat → Bool := fun j => p j || decide (j = w)
theorem cst_ext {C : Nat → Nat} {p q : Nat → Bool} {n : Nat} (h : ∀ j, j < n → p j = q j) : cst C p n = cst C q n := suN_ext n (fun j hj => by rw [h j hj])
theorem cst_rm {C : Nat → Nat} {p : Nat → Bool} {n w : Nat} (hw : w < n) (hp : p w = true) : cst C (rmP p w) n + C w = cst C p n := by
  have e : cst C p n = suN (fun j => (if rmP p w j then C j else 0) + (if decide (j = w) then C w else 0)) n := suN_ext n (fun j _ => by
    unfold rmP
    by_cases h : j = w
    · subst h; simp [hp]
    · simp [h])
  have h2 : suN (fun j => if decide (j = w) then C w else 0) n = C w := by
    rw [suN_one (F := fun j => if decide (j = w) then C w else 0) hw (fun i _ hne => by simp [hne])]
    simp
  rw [e, suN_add, h2]
  rfl
theorem cN_rm {p : Nat → Bool} {n w : Nat} (hw : w < n) (hp : p w = true) : cN (rmP p w) n + 1 = cN p n := by
  have := cst_rm (C := fun _ => 1) hw hp
  rw [cN_su, cN_su]
  exact this
theorem cst_in {C : Nat → Nat} {p : Nat → Bool} {n w : Nat} (hw : w < n) (hp : p w = false) : cst C (inP p w) n = cst C p n + C w := by
  have h := cst_rm (C := C) (p := inP p w) hw (by unfold inP; simp)
  rw [← h]
  congr 1
  exact cst_ext (fun j _ => by unfold rmP inP; by_cases h9 : j = w; subst h9; simp [hp]; simp [h9])
theorem cN_in {p : Nat → Bool} {n w : Nat} (hw : w < n) (hp : p w = false) : cN (inP p w) n = cN p n + 1 := by
  have := cst_in (C := fun _ => 1) hw hp
  rw [cN_su, cN_su]
  exact this
theorem cst_ge {C : Nat → Nat} {p : Nat → Bool} {n w : Nat} (hw : w < n) (hp : p w = true) : C w ≤ cst C p n := by
  have := cst_rm (C := C) hw hp
  omega
theorem cN_sub {q p : Nat → Bool} {n : Nat} (h : sbs q p n) : cN q n ≤ cN p n := by
  induction n with
  | zero => exact Nat.le_refl 0
  | succ n ih =>
    have := ih (fun j hj => h j (by omega))
    have h2 := h n (by omega)
    show cN q n + (if q n then 1 else 0) ≤ cN p n + (if p n then 1 else 0)
    cases hq : q n
    · simp; omega
    · rw [h2 hq]; simp; omega
theorem cN_full {q p : Nat → Bool} {n : Nat} (h : sbs q p n) (e : cN q n = cN p n) : ∀ j, j < n → q j = p j := by
  induction n with
  | zero => intro j hj; omega
  | succ n ih =>
    have h1 : sbs q p n := fun j hj => h j (by omega)
    have h2 := cN_sub h1
    have h3 := h n (by omega)
    have e : cN q n + (if q n then 1 else 0) = cN p n + (if p n then 1 else 0) := e
    intro j hj
    cases hq : q n
    · cases hp : p n
      · rw [hq, hp] at e
        by_cases hjn : j = n
        · subst hjn; rw [hq, hp]
        · exact ih h1 (by simpa using e) j (by omega)
      · rw [hq, hp] at e; simp at e; omega
    · have hp := h3 hq
      rw [hq, hp] at e
      by_cases hjn : j = n
      · subst hjn; rw [hq, hp]
      · exact ih h1 (by simpa using e) j (by omega)
theorem cN_pos {q : Nat → Bool} {n : Nat} (h : 0 < cN q n) : ∃ u, u < n ∧ q u = true := by
  induction n with
  | zero => exact absurd h (Nat.lt_irrefl 0)
  | succ n ih =>
    have h : 0 < cN q n + (if q n then 1 else 0) := h
    cases hq : q n
    · rw [hq] at h
      obtain ⟨u, h1, h2⟩ := ih (by simpa using h)
      exact ⟨u, by omega, h2⟩
    · exact ⟨n, by omega, hq⟩
theorem best_step {C : Nat → Nat} {n M b w : Nat} {p : Nat → Bool} (hw : w < n) (hp : p w = true) (hm : ∀ u, u < n → p u = true → C w ≤ C u) (hM : C w ≤ M) (h : IsBest C n (rmP p w) (M - C w) b) : IsBest C n p M (b + 1) := by
  obtain ⟨⟨q, h1, h2, h3⟩, h4⟩ := h
  have hqw : q w = false := by
    cases hq : q w with
    | false => rfl
    | true => have := h1 w hw hq; unfold rmP at this; simp at this
  refine ⟨⟨inP q w, fun j hj hq => ?_, ?_, ?_⟩, fun q' h5 h6 => ?_⟩
  · unfold inP at hq
    by_cases hjw : j = w
    · subst hjw; exact hp
    · simp [hjw] at hq
      have := h1 j hj hq
      unfold rmP at this
      simp [hjw] at this
      exact this
  · rw [cst_in hw hqw]; omega
  · rw [cN_in hw hqw, h3]
  · by_cases h7 : cN q' n = 0
    · omega
    · obtain ⟨u, hu, hqu⟩ : ∃ u, u < n ∧ (q' u = true ∧ (q' w = true → u = w)) := by
        cases hqw' : q' w with
        | true => exact ⟨w, hw, hqw', fun _ => rfl⟩
        | false => obtain ⟨u, a1, a2⟩ := cN_pos (Nat.pos_of_ne_zero h7); exact ⟨u, a1, a2, fun h => by cases h⟩
      have h8 := h4 (rmP q' u) (fun j hj hq => ?_) ?_
      · have := cN_rm hu hqu.1; omega
      · unfold rmP at hq ⊢
        simp at hq
        have h9 := h5 j hj hq.1
        rw [h9]
        by_cases hjw : j = w
        · subst hjw; exact absurd (hqu.2 hq.1).symm hq.2
        · simp [hjw]
      · have := cst_rm (C := C) hu hqu.1
        have := hm u hu (h5 u hu hqu.1)
        omega
theorem best_0 {C : Nat → Nat} {n M : Nat} {p : Nat → Bool} (h : ∀ u, u < n → p u = true → M < C u) : IsBest C n p M 0 := by
  refine ⟨⟨fun _ => false, fun j _ h => by simp at h, ?_, cN_none n (fun _ _ => rfl)⟩, fun q h1 h2 => ?_⟩
  · rw [show cst C (fun _ => false) n = suN (fun _ => 0) n from suN_ext n (fun _ _ => by simp), suN_0]; omega
  · by_cases h3 : cN q n = 0
    · omega
    · obtain ⟨u, a1, a2⟩ := cN_pos (Nat.pos_of_ne_zero h3)
      have := h u a1 (h1 u a1 a2)
      have := cst_ge (C := C) a1 a2
      omega
theorem best_le {C : Nat → Nat} {n M b : Nat} {p : Nat → Bool} (h : IsBest C n p M b) : b ≤ cN p n := by
  obtain ⟨⟨q, h1, h2, h3⟩, -⟩ := h
  rw [← h3]
  exact cN_sub h1
theorem best_all {C : Nat → Nat} {n M b : Nat} {p : Nat → Bool} (h : IsBest C n p M b) : b = cN p n ↔ cst C p n ≤ M := by
  have hle := best_le h
  obtain ⟨⟨q, h1, h2, h3⟩, h4⟩ := h
  constructor
  · intro e
    have := cN_full h1 (h3.trans e)
    rw [← cst_ext this]
    exact h2
  · intro e
    have := h4 p (fun _ _ h => h) e
    omega
/-! sets as numbers -/
theorem tb_and : ∀ a, a < 256 → ∀ j, j < 8 → (nI a &&& bitI j = 0 ↔ a.testBit j = false) := by decide +kernel
def rmN (a w : Nat) : Nat := if a.testBit w then a - 2 ^ w else a
theorem tb_rm : ∀ a, a < 256 → ∀ w, w < 8 → nI a &&& ((1 <<< (nI w &&& 31)) ^^^ (-1)) = nI (rmN a w) ∧ rmN a w < 256 ∧ ∀ j, j < 8 → (rmN a w).testBit j = (a.testBit j && !(decide (j = w))) := by decide +kernel
theorem tb_bc : ∀ a, a < 256 → bcI (nI a) = nI (cN (fun j => a.testBit j) 8) := by decide +kernel
theorem nI_bv (a : Nat) : (nI a).toBitVec = BitVec.ofNat 32 a := rfl
theorem tb_sub {d A : Nat} (hd : d < 256) (hA : A < 256) : nI d &&& (nI A ^^^ (-1)) = 0 ↔ ∀ j, j < 8 → d.testBit j = true → A.testBit j = true := by
  have e : nI d &&& (nI A ^^^ (-1)) = 0 ↔ (BitVec.ofNat 32 d &&& (BitVec.ofNat 32 A ^^^ BitVec.allOnes 32)) = 0#32 := by
    rw [← Int32.toBitVec_inj]
    exact Iff.rfl
  rw [e]
  have hbit : ∀ i, i < 32 → ((BitVec.ofNat 32 d &&& (BitVec.ofNat 32 A ^^^ BitVec.allOnes 32)).getLsbD i = (d.testBit i && !(A.testBit i))) := fun i hi => by
    simp only [BitVec.getLsbD_and, BitVec.getLsbD_xor, BitVec.getLsbD_ofNat, BitVec.getLsbD_allOnes, hi, decide_true, Bool.true_and, Bool.xor_true]
  constructor
  · intro h j hj hdj
    have h2 := hbit j (by omega)
    rw [h, BitVec.getLsbD_zero, hdj] at h2
    cases hA9 : A.testBit j with
    | true => rfl
    | false => rw [hA9] at h2; cases h2
  · intro h
    refine BitVec.eq_of_getLsbD_eq (fun i hi => ?_)
    rw [hbit i hi, BitVec.getLsbD_zero]
    by_cases h8 : i < 8
    · cases hd9 : d.testBit i with
      | false => rfl
      | true => rw [h i h8 hd9]; rfl
    · rw [Nat.testBit_lt_two_pow (Nat.lt_of_lt_of_le hd (show 2 ^ 8 ≤ 2 ^ i from Nat.pow_le_pow_right (by decide) (by omega)))]
      rfl
/-- the number of a set -/
def mkN (q : Nat → Bool) : Nat → Nat
  | 0 => 0
  | j + 1 => if q j = true then mkN q j + 2 ^ j else mkN q j
theorem mkN_lt (q : Nat → Bool) (n : Nat) : mkN q n < 2 ^ n := by
  induction n with
  | zero => exact Nat.one_pos
  | succ n ih => unfold mkN; have := Nat.pow_succ 2 n; split <;> omega
theorem mkN_tb (q : Nat → Bool) (n : Nat) : ∀ j, (mkN q n).testBit j = (decide (j < n) && q j) := by
  induction n with
  | zero => intro j; simp [mkN]
  | succ n ih =>
    intro j
    have hl := mkN_lt q n
    have hf : (mkN q n).testBit n = false := Nat.testBit_lt_two_pow hl
    unfold mkN
    by_cases hjn : j = n
    · subst hjn
      split
      next h => rw [Nat.add_comm, Nat.testBit_two_pow_add_eq, hf, h]; simp
      next h => rw [hf]; simp [h]
    · split
      next h =>
        rcases Nat.lt_or_gt_of_ne hjn with hlt | hgt
        · rw [Nat.add_comm, Nat.testBit_two_pow_add_gt hlt, ih]
          simp [hlt, show j < n + 1 by omega]
        · have h2 : mkN q n + 2 ^ n < 2 ^ j := Nat.lt_of_lt_of_le (show mkN q n + 2 ^ n < 2 ^ (n + 1) by rw [Nat.pow_succ]; omega) (Nat.pow_le_pow_right (by decide) (by omega))
          rw [Nat.testBit_lt_two_pow h2]
          simp [show ¬ j < n + 1 by omega]
      next h =>
        rw [ih]
        by_cases h9 : j < n
        · simp [h9, show j < n + 1 by omega]
        · simp [h9, show ¬ j < n + 1 by omega]
theorem iN_mk (k : Sk) (r n : Nat) : iN k (nI r) n = mkN (heldB k r) n := by
  induction n with
  | zero => rfl
  | succ n ih =>
    show (if (decide (k.1 14 n = nI r) && isImp k n) = true then iN k (nI r) n + 2 ^ n else iN k (nI r) n) = if heldB k r n = true then mkN (heldB k r) n + 2 ^ n else mkN (heldB k r) n
    rw [ih]
    rfl
theorem mkN_8 (q : Nat → Bool) {n : Nat} (hn : n ≤ 8) : mkN q n < 256 := Nat.lt_of_lt_of_le (mkN_lt q n) (show 2 ^ n ≤ 2 ^ 8 from Nat.pow_le_pow_right (by decide) hn)
theorem cN_8 (p : Nat → Bool) {n m : Nat} (hn : n ≤ m) : cN (fun j => decide (j < n) && p j) m = cN p n := by
  induction m with
  | zero =>
    obtain rfl : n = 0 := by omega
    rfl
  | succ m ih =>
    by_cases h : n = m + 1
    · subst h
      exact cN_ext _ (fun j hj => by simp [hj])
    · show cN _ m + _ = _
      rw [ih (by omega)]
      simp [show ¬ m < n by omega]
/-- the cheapest of a set -/
theorem cw_spec {k : Sk} {a : Nat} (ha : a < 256) {C : Nat → Nat} : ∀ n, n ≤ 8 → (∀ i, i < n → a.testBit i = true → cost k i = nI (C i) ∧ C i < 1000) → (cwR k (nI a) n = -4 ∧ ∀ i, i < n → a.testBit i = false) ∨ ∃ w, w < n ∧ cwR k (nI a) n = nI w ∧ a.testBit w = true ∧ ∀ i, i < n → a.testBit i = true → C w ≤ C i := by
  intro n
  induction n with
  | zero => intro _ _; exact Or.inl ⟨rfl, fun i hi => absurd hi (Nat.not_lt_zero i)⟩
  | succ n ih =>
    intro hn hc
    have ih := ih (by omega) (fun i hi => hc i (by omega))
    have hb := tb_and a ha n (by omega)
    have hstep : cwR k (nI a) (n + 1) = if nI a &&& bitI n = 0 then cwR k (nI a) n else if cwR k (nI a) n = -4 then nI n else if cost k n < cost k (cwR k (nI a) n).toNatClampNeg then nI n else cwR k (nI a) n := rfl
    cases hbit : a.testBit n with
    | false =>
      rw [hstep, if_pos (hb.mpr hbit)]
      rcases ih with ⟨h1, h2⟩ | ⟨w, h1, h2, h3, h4⟩
      · refine Or.inl ⟨h1, fun i hi => ?_⟩
        by_cases h9 : i = n
        · subst h9; exact hbit
        · exact h2 i (by omega)
      · refine Or.inr ⟨w, by omega, h2, h3, fun i hi hbi => ?_⟩
        by_cases h9 : i = n
        · subst h9; rw [hbit] at hbi; cases hbi
        · exact h4 i (by omega) hbi
    | true =>
      have hne : ¬ nI a &&& bitI n = 0 := fun h => by rw [hb.mp h] at hbit; cases hbit
      rw [hstep, if_neg hne]
      obtain ⟨c1, c2⟩ := hc n (by omega) hbit
      rcases ih with ⟨h1, h2⟩ | ⟨w, h1, h2, h3, h4⟩
      · rw [if_pos h1]
        refine Or.inr ⟨n, by omega, rfl, hbit, fun i hi hbi => ?_⟩
        by_cases h9 : i = n
        · subst h9; exact Nat.le_refl _
        · rw [h2 i (by omega)] at hbi; cases hbi
      · have hw4 : ¬ nI w = -4 := fun h => by have := nI_pos (n := w) (by omega); rw [h] at this; exact this (by decide)
        obtain ⟨d1, d2⟩ := hc w (by omega) h3
        rw [h2, if_neg hw4, nI_clamp (by omega), c1, d1]
        by_cases hlt : C n < C w
        · rw [if_pos ((nI_ltI (by omega) (by omega)).mpr hlt)]
          refine Or.inr ⟨n, by omega, rfl, hbit, fun i hi hbi => ?_⟩
          by_cases h9 : i = n
          · subst h9; exact Nat.le_refl _
          · have := h4 i (by omega) hbi; omega
        · rw [if_neg (fun h => hlt ((nI_ltI (by omega) (by omega)).mp h))]
          refine Or.inr ⟨w, by omega, rfl, h3, fun i hi hbi => ?_⟩
          by_cases h9 : i = n
          · subst h9; omega
          · exact h4 i (by omega) hbi
/-- the greedy answer -/
theorem gre_best {k : Sk} {C : Nat → Nat} {n : Nat} (hn : n = k.2 2) (hn8 : n ≤ 8) : ∀ (m a c M : Nat), m + c = 8 → a < 256 → (∀ i, i < n → a.testBit i = true → cost k i = nI (C i) ∧ C i < 1000) → cN (fun j => a.testBit j) n ≤ m → M < 2 ^ 31 → ∃ b, gre k m (nI M) (nI a) c = nI (c + b) ∧ IsBest C n (fun j => a.testBit j) M b := by
  intro m
  induction m with
  | zero =>
    intro a c M hmc ha hc hcn hM
    refine ⟨0, ?_, best_0 (fun u hu hb => ?_)⟩
    · show (8 : Int32) = nI (c + 0)
      rw [show c + 0 = 8 by omega]
      rfl
    · have := cN_rm (p := fun j => a.testBit j) hu hb
      omega
  | succ m ih =>
    intro a c M hmc ha hc hcn hM
    have hstep : gre k (m + 1) (nI M) (nI a) c = if cwR k (nI a) (k.2 2) = -4 then nI c else if cost k (cwR k (nI a) (k.2 2)).toNatClampNeg ≤ nI M then gre k m (nI M - cost k (cwR k (nI a) (k.2 2)).toNatClampNeg) (nI a &&& ((1 <<< (cwR k (nI a) (k.2 2) &&& 31)) ^^^ (-1))) (c + 1) else nI c := rfl
    rw [hstep, ← hn]
    rcases cw_spec ha n hn8 hc with ⟨h1, h2⟩ | ⟨w, h1, h2, h3, h4⟩
    · rw [if_pos h1]
      exact ⟨0, rfl, best_0 (fun u hu hb => by rw [h2 u hu] at hb; cases hb)⟩
    · have hw4 : ¬ nI w = -4 := fun h => by have := nI_pos (n := w) (by omega); rw [h] at this; exact this (by decide)
      obtain ⟨d1, d2⟩ := hc w h1 h3
      rw [h2, if_neg hw4, nI_clamp (by omega), d1]
      by_cases hle : C w ≤ M
      · rw [if_pos ((nI_leI (by omega) hM).mpr hle)]
        obtain ⟨e1, e2, e3⟩ := tb_rm a ha w (by omega)
        rw [e1]
        have eM : nI M - nI (C w) = nI (M - C w) := by
          have : nI (M - C w) + nI (C w) = nI M := by rw [nI_add]; congr 1; omega
          rw [← this]
          grind
        rw [eM]
        have hp : cN (fun j => (rmN a w).testBit j) n = cN (rmP (fun j => a.testBit j) w) n := cN_ext n (fun j hj => e3 j (by omega))
        have hcr := cN_rm (p := fun j => a.testBit j) h1 h3
        obtain ⟨b, hb1, hb2⟩ := ih (rmN a w) (c + 1) (M - C w) (by omega) e2 (fun i hi hb => hc i hi (by rw [e3 i (by omega)] at hb; simp at hb; exact hb.1)) (by omega) (by omega)
        refine ⟨b + 1, by rw [hb1]; congr 1; omega, best_step h1 h3 h4 hle ?_⟩
        obtain ⟨⟨q, q1, q2, q3⟩, q4⟩ := hb2
        exact ⟨⟨q, fun j hj hq => by have h9 : (rmN a w).testBit j = true := q1 j hj hq; rw [e3 j (by omega)] at h9; exact h9, q2, q3⟩, fun q' h5 h6 => q4 q' (fun j hj hq => by have := h5 j hj hq; show (rmN a w).testBit j = true; rw [e3 j (by omega)]; exact this) h6⟩
      · rw [if_neg (fun h => hle ((nI_leI (by omega) hM).mp h))]
        exact ⟨0, rfl, best_0 (fun u hu hb => by have := h4 u hu hb; omega)⟩
/-- the cost of a set -/
theorem coS_cst {k : Sk} {d : Nat} (hd : d < 256) {C : Nat → Nat} : ∀ n, n ≤ 8 → (∀ i, i < n → d.testBit i = true → cost k i = nI (C i) ∧ C i < 1000) → coS k (nI d) n = nI (cst C (fun j => d.testBit j) n) ∧ cst C (fun j => d.testBit j) n ≤ n * 1000 := by
  intro n
  induction n with
  | zero => intro _ _; exact ⟨rfl, Nat.le_refl 0⟩
  | succ n ih =>
    intro hn hc
    obtain ⟨i1, i2⟩ := ih (by omega) (fun i hi => hc i (by omega))
    have hs : coS k (nI d) (n + 1) = if nI d &&& bitI n = 0 then coS k (nI d) n else coS k (nI d) n + cost k n := rfl
    have hs2 : cst C (fun j => d.testBit j) (n + 1) = cst C (fun j => d.testBit j) n + (if d.testBit n then C n else 0) := rfl
    rw [hs, hs2]
    cases hb : d.testBit n with
    | false =>
      rw [if_pos ((tb_and d hd n (by omega)).mpr hb)]
      rw [if_neg (by decide), Nat.add_zero]
      exact ⟨i1, Nat.le_trans i2 (Nat.mul_le_mul_right 1000 (Nat.le_succ n))⟩
    | true =>
      obtain ⟨c1, c2⟩ := hc n (by omega) hb
      rw [if_neg (fun h => by rw [(tb_and d hd n (by omega)).mp h] at hb; cases hb), i1, c1, nI_add]
      rw [if_pos rfl, Nat.succ_mul]
      exact ⟨rfl, Nat.add_le_add i2 (Nat.le_of_lt c2)⟩
/-- the answer by trying every set -/
theorem tR_best {k : Sk} {C : Nat → Nat} {n r A M : Nat} (hn : n = k.2 2) (hn8 : n ≤ 8) (hA : A < 256) (hAn : ∀ j, n ≤ j → A.testBit j = false) (hM : k.1 5 r = nI M) (hM2 : M < 2 ^ 31) (hc : ∀ i, i < n → A.testBit i = true → cost k i = nI (C i) ∧ C i < 1000) : ∀ D, D ≤ 256 → ∃ b, tR k r A D = nI b ∧ b ≤ 8 ∧ (∀ d, d < D → sbs (fun j => d.testBit j) (fun j => A.testBit j) 8 → cst C (fun j => d.testBit j) n ≤ M → cN (fun j => d.testBit j) n ≤ b) ∧ ∃ q, sbs q (fun j => A.testBit j) n ∧ cst C q n ≤ M ∧ cN q n = b := by
  intro D
  induction D with
  | zero => intro _; exact ⟨0, rfl, by decide, fun d hd => absurd hd (Nat.not_lt_zero d), fun _ => false, fun j _ h => by simp at h, by rw [show cst C (fun _ => false) n = suN (fun _ => 0) n from suN_ext n (fun _ _ => by simp), suN_0]; omega, cN_none n (fun _ _ => rfl)⟩
  | succ D ih =>
    intro hD
    obtain ⟨b, b1, b2, b3, q, q1, q2, q3⟩ := ih (by omega)
    have hs : tR k r A (D + 1) = if nI D &&& (nI A ^^^ (-1)) = 0 ∧ coS k (nI D) (k.2 2) ≤ k.1 5 r then (if tR k r A D < bcI (nI D) then bcI (nI D) else tR k r A D) else tR k r A D := rfl
    rw [hs, ← hn]
    have hsub := tb_sub (d := D) (A := A) (by omega) hA
    by_cases hsb : nI D &&& (nI A ^^^ (-1)) = 0
    · have hS := hsub.mp hsb
      have hcD : ∀ i, i < n → D.testBit i = true → cost k i = nI (C i) ∧ C i < 1000 := fun i hi hb => hc i hi (hS i (by omega) hb)
      obtain ⟨e1, e2⟩ := coS_cst (show D < 256 by omega) n hn8 hcD
      have hDn : ∀ j, n ≤ j → j < 8 → D.testBit j = false := fun j h1 h2 => by
        cases hb : D.testBit j with
        | false => rfl
        | true => have := hS j h2 hb; rw [hAn j h1] at this; cases this
      have hcnt : cN (fun j => D.testBit j) 8 = cN (fun j => D.testBit j) n := by
        rw [← cN_8 (fun j => D.testBit j) hn8]
        refine cN_ext 8 (fun j hj => ?_)
        by_cases h9 : j < n
        · simp [h9]
        · simp [h9, hDn j (by omega) hj]
      have hc8 := cN_le (fun j => D.testBit j) n
      by_cases hle : cst C (fun j => D.testBit j) n ≤ M
      · rw [if_pos ⟨hsb, by rw [e1, hM]; exact (nI_leI (by omega) hM2).mpr hle⟩, b1, tb_bc D (by omega), hcnt]
        by_cases hlt : b < cN (fun j => D.testBit j) n
        · rw [if_pos ((nI_ltI (by omega) (by omega)).mpr hlt)]
          refine ⟨_, rfl, by omega, fun d hd h1 h2 => ?_, fun j => D.testBit j, fun j hj hb => hS j (by omega) hb, hle, rfl⟩
          by_cases h9 : d = D
          · subst h9; exact Nat.le_refl _
          · have := b3 d (by omega) h1 h2; omega
        · rw [if_neg (fun h => hlt ((nI_ltI (by omega) (by omega)).mp h))]
          refine ⟨b, rfl, b2, fun d hd h1 h2 => ?_, q, q1, q2, q3⟩
          by_cases h9 : d = D
          · subst h9; omega
          · exact b3 d (by omega) h1 h2
      · rw [if_neg (fun h => hle ((nI_leI (by omega) hM2).mp (by rw [← e1, ← hM]; exact h.2)))]
        refine ⟨b, b1, b2, fun d hd h1 h2 => ?_, q, q1, q2, q3⟩
        by_cases h9 : d = D
        · subst h9; exact absurd h2 hle
        · exact b3 d (by omega) h1 h2
    · rw [if_neg (fun h => hsb h.1)]
      refine ⟨b, b1, b2, fun d hd h1 h2 => ?_, q, q1, q2, q3⟩
      by_cases h9 : d = D
      · subst h9; exact absurd (hsub.mpr h1) hsb
      · exact b3 d (by omega) h1 h2
/-- both ways tell the same -/
theorem Inv.cost {N : Nat} {k : Sk} (h : Inv N k) {w : Nat} (hw : w < k.2 2) (hi : isImp k w = true) : cost k w = nI (tn (cost k w)) ∧ tn (cost k w) < 1000 := by
  have hS := h.1.2.2.2.2.2 w hw
  obtain ⟨b1, b2, b3⟩ := h.2.2.1 (wS k w) hS.2
  have h8 := (h.2.2.2.2.2.2.2 w hw).resolve_left (fun h9 => by unfold isImp at hi; rw [h9] at hi; simp at hi)
  have e : Jvm.Pilot.CStarBailiffLaw_law_r2158_4b6884.cost k w = nI (tn (k.1 0 (wS k w)) + tn (k.1 18 w)) := by
    show k.1 0 (wS k w) + k.1 18 w = _
    rw [← nI_add, ← b1, ← h8.1]
  rw [e, tn_nI (by omega)]
  exact ⟨rfl, by omega⟩
theorem Inv.could {N : Nat} {k : Sk} (h : Inv N k) (hN : N ≤ 1000000) {r : Nat} (hr : r < k.2 1) : ∃ b, couN k r = nI b ∧ couA k r = nI b ∧ IsBest (fun w => tn (Jvm.Pilot.CStarBailiffLaw_law_r2158_4b6884.cost k w)) (k.2 2) (heldB k r) (tn (k.1 5 r)) b := by
  have hn8 := h.1.2.2.1
  obtain ⟨⟨c1, c2⟩, -⟩ := h.2.2.2.2.2.2.1 r hr
  have hA := mkN_8 (heldB k r) hn8
  have htb : ∀ j, j < k.2 2 → (mkN (heldB k r) (k.2 2)).testBit j = heldB k r j := fun j hj => by rw [mkN_tb]; simp [hj]
  have hAn : ∀ j, k.2 2 ≤ j → (mkN (heldB k r) (k.2 2)).testBit j = false := fun j hj => by rw [mkN_tb]; simp [show ¬ j < k.2 2 by omega]
  have hc : ∀ i, i < k.2 2 → (mkN (heldB k r) (k.2 2)).testBit i = true → Jvm.Pilot.CStarBailiffLaw_law_r2158_4b6884.cost k i = nI ((fun w => tn (Jvm.Pilot.CStarBailiffLaw_law_r2158_4b6884.cost k w)) i) ∧ (fun w => tn (Jvm.Pilot.CStarBailiffLaw_law_r2158_4b6884.cost k w)) i < 1000 := fun i hi hb => by
    rw [htb i hi] at hb
    unfold heldB at hb
    simp at hb
    exact h.cost hi hb.2
  obtain ⟨b, g1, g2⟩ := gre_best rfl hn8 8 (mkN (heldB k r) (k.2 2)) 0 (tn (k.1 5 r)) (by decide) hA hc (Nat.le_trans (cN_le _ _) hn8) (tn_lt _)
  obtain ⟨b', t1, t2, t3, q, q1, q2, q3⟩ := tR_best rfl hn8 hA hAn c1 (tn_lt _) hc (mkN (heldB k r) (k.2 2) + 1) (by omega)
  have hB : IsBest (fun w => tn (Jvm.Pilot.CStarBailiffLaw_law_r2158_4b6884.cost k w)) (k.2 2) (heldB k r) (tn (k.1 5 r)) b := by
    obtain ⟨⟨q, q1, q2, q3⟩, q4⟩ := g2
    exact ⟨⟨q, fun j hj hq => by have := q1 j hj hq; rw [← htb j hj]; exact this, q2, q3⟩, fun q' h5 h6 => q4 q' (fun j hj hq => by have := h5 j hj hq; show (mkN (heldB k r) (k.2 2)).testBit j = true; rw [htb j hj]; exact this) h6⟩
  have e1 : couN k r = nI b := by
    unfold couN
    rw [iN_mk]
    have : gre k 8 (nI (tn (k.1 5 r))) (nI (mkN (heldB k r) (k.2 2))) 0 = nI (0 + b) := g1
    rw [← c1, Nat.zero_add] at this
    exact this
  have e2 : couA k r = nI b' := by
    unfold couA
    rw [iN_mk]
    exact t1
  have hbb : b = b' := by
    have h1 := hB.2 q (fun j hj hq => by have := q1 j hj hq; rw [← htb j hj]; exact this) q2
    obtain ⟨⟨q0, p1, p2, p3⟩, -⟩ := hB
    have hmk : ∀ j, j < k.2 2 → (mkN q0 (k.2 2)).testBit j = q0 j := fun j hj => by rw [mkN_tb]; simp [hj]
    have hle : mkN q0 (k.2 2) ≤ mkN (heldB k r) (k.2 2) := by
      have : ∀ n, n ≤ k.2 2 → mkN q0 n ≤ mkN (heldB k r) n := by
        intro n
        induction n with
        | zero => intro _; exact Nat.le_refl 0
        | succ n ih =>
          intro hn
          have i1 := ih (by omega)
          have i2 := p1 n (by omega)
          have i3 := Nat.two_pow_pos n
          show (if q0 n = true then mkN q0 n + 2 ^ n else mkN q0 n) ≤ (if heldB k r n = true then mkN (heldB k r) n + 2 ^ n else mkN (heldB k r) n)
          by_cases h9 : q0 n = true
          · rw [if_pos h9, if_pos (i2 h9)]; omega
          · rw [if_neg h9]; split <;> omega
      exact this _ (Nat.le_refl _)
    have h2 := t3 (mkN q0 (k.2 2)) (by omega) (fun j hj hb => by
      have hb : (mkN q0 (k.2 2)).testBit j = true := hb
      show (mkN (heldB k r) (k.2 2)).testBit j = true
      rw [mkN_tb] at hb ⊢
      simp at hb ⊢
      exact ⟨hb.1, p1 j hb.1 hb.2⟩) (by rw [cst_ext hmk]; exact p2)
    rw [cN_ext _ hmk, p3] at h2
    omega
  exact ⟨b, e1, by rw [e2, hbb], hB⟩
