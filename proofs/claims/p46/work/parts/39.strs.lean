/-! the texts of the program and of the law, as the start holds them -/
def strs : List (String × Nat × List Nat) := [
  ("StarBailiff$Command", 100, [100, 97, 119, 110]),
  ("StarBailiff$Command", 64, [115, 116, 97, 114, 32, 68, 32, 68]),
  ("StarBailiff$Command", 70, [114, 111, 111, 102, 32, 78]),
  ("StarBailiff$Command", 73, [99, 108, 111, 117, 100, 32, 68, 32, 68]),
  ("StarBailiff$Command", 76, [115, 105, 103, 104, 116, 32, 68, 76]),
  ("StarBailiff$Command", 79, [99, 108, 97, 105, 109, 32, 68, 76]),
  ("StarBailiff$Command", 85, [119, 105, 115, 104, 32, 68, 76, 68]),
  ("StarBailiff$Command", 91, [112, 111, 117, 110, 100, 32, 68]),
  ("StarBailiff$Command", 82, [100, 114, 111, 112, 32, 76]),
  ("StarBailiff$Command", 97, [115, 116, 97, 121, 32, 68, 32, 68]),
  ("StarBailiff$Command", 88, [112, 97, 121, 32, 68, 32, 78]),
  ("StarBailiff$Command", 94, [114, 101, 100, 101, 101, 109, 32, 68]),
  ("StarBailiffLaw", 212, [115, 116, 97, 114, 32, 57, 32, 51]),
  ("StarBailiffLaw", 214, [115, 116, 97, 114, 32, 49, 32, 48, 59, 115, 116, 97, 114, 32, 53, 32, 48]),
  ("StarBailiffLaw", 216, [114, 111, 111, 102, 32, 49, 50]),
  ("StarBailiffLaw", 218, [114, 111, 111, 102, 32, 48, 59, 114, 111, 111, 102, 32, 57, 57]),
  ("StarBailiffLaw", 220, [99, 108, 111, 117, 100, 32, 48, 32, 53]),
  ("StarBailiffLaw", 222, [99, 108, 111, 117, 100, 32, 49, 32, 48, 59, 99, 108, 111, 117, 100, 32, 49, 32, 57]),
  ("StarBailiffLaw", 224, [115, 105, 103, 104, 116, 32, 48, 97]),
  ("StarBailiffLaw", 226, [115, 105, 103, 104, 116, 32, 49, 98, 59, 115, 105, 103, 104, 116, 32, 49, 98]),
  ("StarBailiffLaw", 228, [99, 108, 97, 105, 109, 32, 48, 97]),
  ("StarBailiffLaw", 230, [99, 108, 97, 105, 109, 32, 49, 98, 59, 99, 108, 97, 105, 109, 32, 48, 98]),
  ("StarBailiffLaw", 232, [100, 114, 111, 112, 32, 97]),
  ("StarBailiffLaw", 234, [100, 114, 111, 112, 32, 98, 59, 100, 114, 111, 112, 32, 98]),
  ("StarBailiffLaw", 236, [119, 105, 115, 104, 32, 48, 97, 53]),
  ("StarBailiffLaw", 238, [115, 105, 103, 104, 116, 32, 48, 99, 59, 119, 105, 115, 104, 32, 48, 99, 57]),
  ("StarBailiffLaw", 240, [112, 97, 121, 32, 48, 32, 49]),
  ("StarBailiffLaw", 242, [112, 97, 121, 32, 49, 32, 57, 57]),
  ("StarBailiffLaw", 244, [112, 111, 117, 110, 100, 32, 48]),
  ("StarBailiffLaw", 246, [112, 111, 117, 110, 100, 32, 49, 59, 112, 111, 117, 110, 100, 32, 49]),
  ("StarBailiffLaw", 248, [114, 101, 100, 101, 101, 109, 32, 48]),
  ("StarBailiffLaw", 250, [114, 101, 100, 101, 101, 109, 32, 49, 59, 114, 101, 100, 101, 101, 109, 32, 49]),
  ("StarBailiffLaw", 252, [115, 116, 97, 121, 32, 48, 32, 50]),
  ("StarBailiffLaw", 254, [115, 116, 97, 121, 32, 49, 32, 48]),
  ("StarBailiffLaw", 256, [100, 97, 119, 110]),
  ("StarBailiffLaw", 257, [100, 97, 119, 110, 59, 100, 97, 119, 110, 59, 100, 97, 119, 110, 59, 100, 97, 119, 110]),
  ("StarBailiffLaw", 259, [115, 116, 97, 114, 32, 48, 32, 48]),
  ("StarBailiffLaw", 261, [115, 116, 97, 114, 32, 49, 32, 52]),
  ("StarBailiffLaw", 263, [99, 108, 111, 117, 100, 32, 52, 32, 49]),
  ("StarBailiffLaw", 265, [115, 105, 103, 104, 116, 32, 57, 97]),
  ("StarBailiffLaw", 267, [115, 105, 103, 104, 116, 32, 48, 104]),
  ("StarBailiffLaw", 269, [115, 116, 97, 121, 32, 57, 32, 49])]
def formL : List (List Nat) := [
  [115, 116, 97, 114, 32, 68, 32, 68],
  [114, 111, 111, 102, 32, 78],
  [99, 108, 111, 117, 100, 32, 68, 32, 68],
  [115, 105, 103, 104, 116, 32, 68, 76],
  [99, 108, 97, 105, 109, 32, 68, 76],
  [100, 114, 111, 112, 32, 76],
  [119, 105, 115, 104, 32, 68, 76, 68],
  [112, 97, 121, 32, 68, 32, 78],
  [112, 111, 117, 110, 100, 32, 68],
  [114, 101, 100, 101, 101, 109, 32, 68],
  [115, 116, 97, 121, 32, 68, 32, 68],
  [100, 97, 119, 110]]
def formK : List Nat := [64, 70, 73, 76, 79, 82, 85, 88, 91, 94, 97, 100]
def textL : List (List Nat) := [
  [115, 116, 97, 114, 32, 57, 32, 51],
  [115, 116, 97, 114, 32, 49, 32, 48, 59, 115, 116, 97, 114, 32, 53, 32, 48],
  [114, 111, 111, 102, 32, 49, 50],
  [114, 111, 111, 102, 32, 48, 59, 114, 111, 111, 102, 32, 57, 57],
  [99, 108, 111, 117, 100, 32, 48, 32, 53],
  [99, 108, 111, 117, 100, 32, 49, 32, 48, 59, 99, 108, 111, 117, 100, 32, 49, 32, 57],
  [115, 105, 103, 104, 116, 32, 48, 97],
  [115, 105, 103, 104, 116, 32, 49, 98, 59, 115, 105, 103, 104, 116, 32, 49, 98],
  [99, 108, 97, 105, 109, 32, 48, 97],
  [99, 108, 97, 105, 109, 32, 49, 98, 59, 99, 108, 97, 105, 109, 32, 48, 98],
  [100, 114, 111, 112, 32, 97],
  [100, 114, 111, 112, 32, 98, 59, 100, 114, 111, 112, 32, 98],
  [119, 105, 115, 104, 32, 48, 97, 53],
  [115, 105, 103, 104, 116, 32, 48, 99, 59, 119, 105, 115, 104, 32, 48, 99, 57],
  [112, 97, 121, 32, 48, 32, 49],
  [112, 97, 121, 32, 49, 32, 57, 57],
  [112, 111, 117, 110, 100, 32, 48],
  [112, 111, 117, 110, 100, 32, 49, 59, 112, 111, 117, 110, 100, 32, 49],
  [114, 101, 100, 101, 101, 109, 32, 48],
  [114, 101, 100, 101, 101, 109, 32, 49, 59, 114, 101, 100, 101, 101, 109, 32, 49],
  [115, 116, 97, 121, 32, 48, 32, 50],
  [115, 116, 97, 121, 32, 49, 32, 48],
  [100, 97, 119, 110],
  [100, 97, 119, 110, 59, 100, 97, 119, 110, 59, 100, 97, 119, 110, 59, 100, 97, 119, 110],
  [115, 116, 97, 114, 32, 48, 32, 48],
  [115, 116, 97, 114, 32, 49, 32, 52],
  [99, 108, 111, 117, 100, 32, 52, 32, 49],
  [115, 105, 103, 104, 116, 32, 57, 97],
  [115, 105, 103, 104, 116, 32, 48, 104],
  [115, 116, 97, 121, 32, 57, 32, 49]]
def textK : List Nat := [212, 214, 216, 218, 220, 222, 224, 226, 228, 230, 232, 234, 236, 238, 240, 242, 244, 246, 248, 250, 252, 254, 256, 257, 259, 261, 263, 265, 267, 269]
theorem GC.nestF {X : Cx} {U : State} (h0 : Init X) (h : GC X U) (A : Array Value) {a : String} {i : Nat} {b n d host : String} (hw : Cond.fieldLinkNest a i b n d host ∈ lw_tbl) : (Cond.fieldLinkNest a i b n d host).before A U = true := va_Nw.use rfl (va_Nw.warmF h.1 (va_Nw.of rfl (h0.2.1 _ hw)))
theorem eq_ref {args : Array Value} {s : State} {t t' : Term} {a : Nat} (h : (Cond.eq t t').before args s = true) (h' : t'.eval args s none [] s = some (.ref a)) : t.eval args s none [] s = some (.ref a) := by
  cases hv : t.eval args s none [] s with
  | none => simp [Cond.before, Cond.holds, Cond.value, hv] at h
  | some w =>
    simp only [Cond.before, Cond.holds, Cond.value, hv, h'] at h
    cases w <;> simp_all
def strF (x : String × Nat × List Nat) : List Cond :=
  Cond.exactly (.string x.1 x.2.1) "java/lang/String" :: Cond.eq (.field (.string x.1 x.2.1) "java/lang/String" "coder" "B") (.int 0) :: Cond.arrayOf (.field (.string x.1 x.2.1) "java/lang/String" "value" "[B") .byte :: Cond.eq (.length (.field (.string x.1 x.2.1) "java/lang/String" "value" "[B")) (.int (Int32.ofNat x.2.2.length)) ::
    (List.range x.2.2.length).map (fun j => Cond.eq (.elem (.field (.string x.1 x.2.1) "java/lang/String" "value" "[B") (.int (Int32.ofNat j))) (.int (nI (x.2.2.getD j 0))))
theorem strs_in : ((flatC (Jvm.Cond.and given_1 narrow_1)).drop 382).take 477 ++ ((flatC (Jvm.Cond.and given_1 narrow_1)).drop 860).take 96 = strs.flatMap strF := by decide +kernel
theorem strs_ok : ∀ x ∈ strs, x.2.2.length < 1000 := by decide +kernel
theorem str_of {X : Cx} (h0 : Init X) {x : String × Nat × List Nat} (hx : x ∈ strs) : ∃ q, (Term.string x.1 x.2.1).eval #[Value.ref X.b] X.s none [] X.s = some (.ref q) ∧ StrAt X q x.2.2 := by
  have hin : ∀ c ∈ strF x, c.before #[Value.ref X.b] X.s = true := fun c hc => fl h0 ((List.mem_append.mp (by rw [strs_in]; exact List.mem_flatMap.mpr ⟨x, hx, hc⟩)).elim (fun h => List.mem_of_mem_drop (List.mem_of_mem_take h)) (fun h => List.mem_of_mem_drop (List.mem_of_mem_take h)))
  have h1 := hin (Cond.exactly (.string x.1 x.2.1) "java/lang/String") (by unfold strF; simp)
  obtain ⟨a, c, cA, kA, q1, q2, q3, q4, q5, q6, -⟩ := Cond.exactly_spec (args := #[Value.ref X.b]) (first := X.s) (o := none) (s := X.s) (idx := []) (t := .string x.1 x.2.1) (cls := "java/lang/String") h1
  obtain ⟨t, ht, hT⟩ := va_Tof (args := #[Value.ref X.b]) (s := X.s) (tm := .field (.string x.1 x.2.1) "java/lang/String" "value" "[B") (ty := .byte) (N := x.2.2.length) (f := fun j => .int (nI (x.2.2.getD j 0))) (A := gA X) (by have := strs_ok x hx; omega) (hin _ (by unfold strF; simp)) (va_eqt (hin _ (by unfold strF; simp))) (fun j hj => va_eqt (hin _ (by unfold strF; exact List.mem_cons_of_mem _ (List.mem_cons_of_mem _ (List.mem_cons_of_mem _ (List.mem_cons_of_mem _ (List.mem_map.mpr ⟨j, List.mem_range.mpr hj, rfl⟩)))))) ) (gA_old X)
  exact ⟨a, q1, ⟨cA, q3, q5, by rw [q6]; exact q2, gA_old X a (Array.getElem?_eq_some_iff.mp q3).1⟩, vk_OFof q1 (va_eqt (hin _ (by unfold strF; simp))) (gA_old X), t, vk_OFof q1 ht (gA_old X), hT⟩
theorem form_in : ∀ i, i < 12 → ("StarBailiff$Command", formK.getD i 0, formL.getD i []) ∈ strs := by decide +kernel
theorem formE : ∀ i, i < 12 → Cond.eq (.field (.static "StarBailiff$Command" (nmC.getD i "") "LStarBailiff$Command;") "StarBailiff$Command" "form" "Ljava/lang/String;") (.string "StarBailiff$Command" (formK.getD i 0)) ∈ flatC (Jvm.Cond.and given_1 narrow_1) := by decide +kernel
theorem cmdE : ∀ i, i < 12 → Cond.eq (.elem (.static "StarBailiff" "COMMANDS" "[LStarBailiff$Command;") (.int (Int32.ofNat i))) (.static "StarBailiff$Command" (nmC.getD i "") "LStarBailiff$Command;") ∈ flatC (Jvm.Cond.and given_1 narrow_1) := by decide +kernel
theorem txtE : ∀ i, i < 30 → Cond.eq (.elem (.static "StarBailiffLaw" "TEXTS" "[Ljava/lang/String;") (.int (Int32.ofNat i))) (.string "StarBailiffLaw" (textK.getD i 0)) ∈ flatC (Jvm.Cond.and given_1 narrow_1) := memD (p := 146) (by decide +kernel)
/-- the table of the commands, and their forms -/
def StW (X : Cx) (cm qf : Nat → Nat) (tc : Nat) : Prop := va_Z "StarBailiff" "COMMANDS" "[LStarBailiff$Command;" (.ref tc) (gA X) X.s X.s.heap ∧ va_T (.object "StarBailiff$Command") tc 12 (fun j => .ref (cm j)) (gA X) X.s X.s.heap ∧ ∀ i, i < 12 → va_OF "StarBailiff$Command" "form" "Ljava/lang/String;" (.ref (qf i)) (cm i) (gA X) X.s X.s.heap ∧ StrAt X (qf i) (formL.getD i [])
theorem StW_of {X : Cx} (h0 : Init X) : ∃ cm sm qf tc, StC X cm sm ∧ StW X cm qf tc := by
  have hT := h0.2.1
  obtain ⟨cm, hcm, hev⟩ := va_Enof2 (args := #[Value.ref X.b]) (s := X.s) (E := "StarBailiff$Command") (d := "LStarBailiff$Command;") (nm := nmC) (F := fC) (A := gA X) (fun i hi => hT _ (lsC i hi)) (hT _ (List.mem_filter.mp wz_X1).1) (fun i hi => fl h0 (exC i hi)) (fun q hq i hi => by rw [List.mem_singleton.mp hq]; exact fl h0 (odC i hi)) (fun i j hi hj hne => (ndC i hi j hj hne).imp (fun h => fl h0 h) (fun h => fl h0 h)) (gA_old X)
  obtain ⟨cm0, sm, h1, h2, h3, h4⟩ := StC_of h0
  have hf : ∀ i, ∃ q, i < 12 → (va_OF "StarBailiff$Command" "form" "Ljava/lang/String;" (.ref q) (cm i) (gA X) X.s X.s.heap ∧ StrAt X q (formL.getD i [])) := by
    intro i
    by_cases hi : i < 12
    · obtain ⟨q, hq, hs⟩ := str_of h0 (form_in i hi)
      exact ⟨q, fun _ => ⟨vk_OFof (hev i hi) (eq_ref (fl h0 (formE i hi)) hq) (gA_old X), hs⟩⟩
    · exact ⟨0, fun h => absurd h hi⟩
  obtain ⟨qf, hqf⟩ := Classical.axiomOfChoice hf
  obtain ⟨tc, htc, htT⟩ := va_Tof (args := #[Value.ref X.b]) (s := X.s) (tm := .static "StarBailiff" "COMMANDS" "[LStarBailiff$Command;") (ty := .object "StarBailiff$Command") (N := 12) (f := fun j => .ref (cm j)) (A := gA X) (by decide) (fl h0 (by decide +kernel)) (va_eqt (z := Int32.ofNat 12) (fl h0 (by decide +kernel))) (fun j hj => eq_ref (fl h0 (cmdE j hj)) (hev j hj)) (gA_old X)
  exact ⟨cm, sm, qf, tc, ⟨hcm, h2, h3, h4⟩, va_Zof (hT _ wls_X9_COMMANDS) (hT _ (List.mem_filter.mp wz_X9).1) htc (gA_old X), htT, hqf⟩
theorem text_in : ∀ i, i < 30 → ("StarBailiffLaw", textK.getD i 0, textL.getD i []) ∈ strs := by decide +kernel
/-- the law's table of texts -/
def StT (X : Cx) (tq : Nat → Nat) (tt : Nat) : Prop := va_Z "StarBailiffLaw" "TEXTS" "[Ljava/lang/String;" (.ref tt) (gA X) X.s X.s.heap ∧ va_T (.object "java/lang/String") tt 30 (fun j => .ref (tq j)) (gA X) X.s X.s.heap ∧ ∀ i, i < 30 → StrAt X (tq i) (textL.getD i [])
theorem StT_of {X : Cx} (h0 : Init X) : ∃ tq tt, StT X tq tt := by
  have hf : ∀ i, ∃ q, i < 30 → ((Term.string "StarBailiffLaw" (textK.getD i 0)).eval #[Value.ref X.b] X.s none [] X.s = some (.ref q) ∧ StrAt X q (textL.getD i [])) := by
    intro i
    by_cases hi : i < 30
    · obtain ⟨q, hq, hs⟩ := str_of h0 (text_in i hi)
      exact ⟨q, fun _ => ⟨hq, hs⟩⟩
    · exact ⟨0, fun h => absurd h hi⟩
  obtain ⟨tq, htq⟩ := Classical.axiomOfChoice hf
  obtain ⟨tt, htt, htT⟩ := va_Tof (args := #[Value.ref X.b]) (s := X.s) (tm := .static "StarBailiffLaw" "TEXTS" "[Ljava/lang/String;") (ty := .object "java/lang/String") (N := 30) (f := fun j => .ref (tq j)) (A := gA X) (by decide) (fl h0 (by decide +kernel)) (va_eqt (z := Int32.ofNat 30) (fl h0 (by decide +kernel))) (fun j hj => eq_ref (fl h0 (txtE j hj)) (htq j hj).1) (gA_old X)
  exact ⟨tq, tt, va_Zof (h0.2.1 _ wls_L_TEXTS) (h0.2.1 _ (List.mem_filter.mp wz_L).1) htt (gA_old X), htT, fun i hi => (htq i hi).2⟩
