/-! the law's texts, read -/
def PL : List (List Pc) := [
  [(0, 0, 8, 9, 3, 0)],
  [(0, 0, 8, 1, 0, 0), (9, 0, 17, 5, 0, 0)],
  [(0, 1, 7, 12, 0, 0)],
  [(0, 1, 6, 0, 0, 0), (7, 1, 14, 99, 0, 0)],
  [(0, 2, 9, 0, 5, 0)],
  [(0, 2, 9, 1, 0, 0), (10, 2, 19, 1, 9, 0)],
  [(0, 3, 8, 0, 0, 0)],
  [(0, 3, 8, 1, 1, 0), (9, 3, 17, 1, 1, 0)],
  [(0, 4, 8, 0, 0, 0)],
  [(0, 4, 8, 1, 1, 0), (9, 4, 17, 0, 1, 0)],
  [(0, 5, 6, 0, 0, 0)],
  [(0, 5, 6, 1, 0, 0), (7, 5, 13, 1, 0, 0)],
  [(0, 6, 8, 0, 0, 5)],
  [(0, 3, 8, 0, 2, 0), (9, 6, 17, 0, 2, 9)],
  [(0, 7, 7, 0, 1, 0)],
  [(0, 7, 8, 1, 99, 0)],
  [(0, 8, 7, 0, 0, 0)],
  [(0, 8, 7, 1, 0, 0), (8, 8, 15, 1, 0, 0)],
  [(0, 9, 8, 0, 0, 0)],
  [(0, 9, 8, 1, 0, 0), (9, 9, 17, 1, 0, 0)],
  [(0, 10, 8, 0, 2, 0)],
  [(0, 10, 8, 1, 0, 0)],
  [(0, 11, 4, 0, 0, 0)],
  [(0, 11, 4, 0, 0, 0), (5, 11, 9, 0, 0, 0), (10, 11, 14, 0, 0, 0), (15, 11, 19, 0, 0, 0)],
  [(0, 0, 8, 0, 0, 0)],
  [(0, 0, 8, 1, 4, 0)],
  [(0, 2, 9, 4, 1, 0)],
  [(0, 3, 8, 9, 0, 0)],
  [(0, 3, 8, 0, 7, 0)],
  [(0, 10, 8, 9, 1, 0)]]
def pcD : Pc := (0, 0, 0, 0, 0, 0)
def nmP (x : Pc) (i : Nat) : Int32 := if i = 0 then x.2.2.2.1 else if i = 1 then x.2.2.2.2.1 else x.2.2.2.2.2
def chX (t : List Nat) (L : List Pc) (j : Nat) : Bool :=
  decide ((L.getD j pcD).1 ≤ t.length) && decide ((L.getD j pcD).2.1 < 12) && decide ((L.getD j pcD).2.2.1 ≤ t.length) && decide ((fcR t (L.getD j pcD).1 formL 0 (nI (L.getD j pcD).1) (fun _ => 0)).1 = some ((L.getD j pcD).2.1, (L.getD j pcD).2.2.1)) &&
    (List.range (pls (formL.getD (L.getD j pcD).2.1 []))).all (fun i => decide ((fcR t (L.getD j pcD).1 formL 0 (nI (L.getD j pcD).1) (fun _ => 0)).2.2 i = nmP (L.getD j pcD) i)) &&
    decide ((L.getD j pcD).1 = match j with | 0 => 0 | i + 1 => (L.getD i (0, 0, 0, 0, 0, 0)).2.2.1 + 1)
def chP (t : List Nat) (L : List Pc) : Bool := decide ((ccR t 60 1 0 0 (fun _ => 0)).1 = nI L.length) && decide (L.length < 100) && (List.range L.length).all (chX t L)
theorem pls_f : ∀ cd, cd < 12 → pls (formL.getD cd []) = [2, 1, 2, 2, 2, 1, 3, 2, 1, 1, 2, 0].getD cd 0 := by decide +kernel
theorem oCmd_na (k : Sk) (E : Nat → Int32) : ∀ cd, cd < 12 → ∀ (n : Nat → Int32) (a b c : Int32), (∀ i, i < pls (formL.getD cd []) → n i = if i = 0 then a else if i = 1 then b else c) → oCmd k E cd (n 0) (n 1) (n 2) = oCmd k E cd a b c := by
  intro cd hcd n a b c h
  rw [pls_f cd hcd] at h
  generalize hN : [2, 1, 2, 2, 2, 1, 3, 2, 1, 1, 2, 0].getD cd 0 = N at h
  have p1 : 0 < N → n 0 = a := fun h1 => h 0 h1
  have p2 : 1 < N → n 1 = b := fun h1 => h 1 h1
  have p3 : 2 < N → n 2 = c := fun h1 => h 2 h1
  match cd, hcd with
  | 0, _ => have hN : 2 = N := hN; simp only [oCmd, p1 (by omega), p2 (by omega)]
  | 1, _ => have hN : 1 = N := hN; simp only [oCmd, p1 (by omega)]
  | 2, _ => have hN : 2 = N := hN; simp only [oCmd, p1 (by omega), p2 (by omega)]
  | 3, _ => have hN : 2 = N := hN; simp only [oCmd, p1 (by omega), p2 (by omega)]
  | 4, _ => have hN : 2 = N := hN; simp only [oCmd, p1 (by omega), p2 (by omega)]
  | 5, _ => have hN : 1 = N := hN; simp only [oCmd, p1 (by omega)]
  | 6, _ => have hN : 3 = N := hN; simp only [oCmd, p1 (by omega), p2 (by omega), p3 (by omega)]
  | 7, _ => have hN : 2 = N := hN; simp only [oCmd, p1 (by omega), p2 (by omega)]
  | 8, _ => have hN : 1 = N := hN; simp only [oCmd, p1 (by omega)]
  | 9, _ => have hN : 1 = N := hN; simp only [oCmd, p1 (by omega)]
  | 10, _ => have hN : 2 = N := hN; simp only [oCmd, p1 (by omega), p2 (by omega)]
  | 11, _ => have hN : 0 = N := hN; simp only [oCmd]
  | q + 12, h => exact absurd h (by omega)
theorem Prs_of {t : List Nat} {L : List Pc} (h : chP t L = true) : Prs t L := by
  unfold chP at h
  simp only [Bool.and_eq_true, decide_eq_true_eq, List.all_eq_true, List.mem_range] at h
  have key : ∀ (j : Nat) (x : Pc), L[j]? = some x → L.getD j pcD = x ∧ chX t L j = true := fun j x hx => ⟨by rw [List.getD_eq_getElem?_getD, hx]; rfl, h.2 j (List.getElem?_eq_some_iff.mp hx).1⟩
  refine ⟨fun e u => by rw [cc_rel 60 1 0 e 0 u (fun _ => 0)]; exact h.1.1, h.1.2, fun j x hx => ?_, fun j x hx => ?_⟩
  · obtain ⟨e1, e2⟩ := key j x hx
    unfold chX at e2
    rw [e1] at e2
    simp only [Bool.and_eq_true, decide_eq_true_eq, List.all_eq_true, List.mem_range] at e2
    obtain ⟨⟨⟨⟨⟨a1, a2⟩, a3⟩, a4⟩, a5⟩, a6⟩ := e2
    have hr := fun u => fc_rel (t := t) (p := x.1) formL 0 (nI x.1) u (fun _ => 0) pls_form
    refine ⟨a1, a2, a3, fun u => (hr u).1.trans a4, fun u k E => ?_⟩
    refine oCmd_na k E x.2.1 a2 (fun i => (fcR t x.1 formL 0 (nI x.1) u).2.2 i) _ _ _ (fun i hi => ?_)
    have h9 := ((hr u).2.2 _ ((hr u).1.trans a4)).2
    exact (h9 i hi).trans (a5 i hi)
  · obtain ⟨e1, e2⟩ := key j x hx
    unfold chX at e2
    rw [e1] at e2
    simp only [Bool.and_eq_true, decide_eq_true_eq] at e2
    exact e2.2
theorem prs_b : ∀ j, j < 30 → chP (textL.getD j []) (PL.getD j []) = true := by decide +kernel
theorem prs_all (j : Nat) (hj : j < 30) : Prs (textL.getD j []) (PL.getD j []) := Prs_of (prs_b j hj)
theorem text_ok : ∀ j, j < 30 → (textL.getD j []).length ≤ 60 ∧ ∀ c ∈ textL.getD j [], 32 ≤ c ∧ c ≤ 126 := by decide +kernel
