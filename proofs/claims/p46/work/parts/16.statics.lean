/-! the statics at the start, out of what the Statement gives; and in every state that a run comes to -/
def gA (X : Cx) : Nat → Prop := fun q => X.z ≤ q
theorem gA_old (X : Cx) : ∀ a : Nat, a < X.s.heap.size → ¬ gA X a := fun a h h2 => absurd (show X.s.heap.size ≤ a from h2) (by omega)
theorem fl {X : Cx} (h0 : Init X) {c : Cond} (h : c ∈ flatC (Jvm.Cond.and given_1 narrow_1)) : c.before #[Value.ref X.b] X.s = true := flat_of_before _ h0.2.2 _ h
theorem GC.old {X : Cx} {U : State} (h : GC X U) : ∀ a : Nat, a < X.s.heap.size → ¬ gA X a → U.heap[a]? = X.s.heap[a]? := fun a h1 _ => h.2.2 a h1
theorem gA_nar {X : Cx} {A : Nat → Prop} (h : ∀ q, q < X.z → ¬ A q) : ∀ q, A q → gA X q := fun q hq => Nat.not_lt.mp (fun h2 => h q h2 hq)
def nmC : List String := ["STAR", "ROOF", "CLOUD", "SIGHT", "CLAIM", "DROP", "WISH", "PAY", "POUND", "REDEEM", "STAY", "DAWN"]
def orC : List Int32 := [0, 1, 2, 3, 4, 5, 6, 7, 8, 9, 10, 11]
abbrev fC : List (String × String × String × List Int32) := [("java/lang/Enum", "ordinal", "I", orC)]
theorem exC : ∀ i, i < 12 → Cond.exactly (.static "StarBailiff$Command" (nmC.getD i "") "LStarBailiff$Command;") "StarBailiff$Command" ∈ flatC (Jvm.Cond.and given_1 narrow_1) := by decide +kernel
theorem odC : ∀ i, i < 12 → Cond.eq (.field (.static "StarBailiff$Command" (nmC.getD i "") "LStarBailiff$Command;") "java/lang/Enum" "ordinal" "I") (.int (orC.getD i 0)) ∈ flatC (Jvm.Cond.and given_1 narrow_1) := by decide +kernel
theorem ndC : ∀ i, i < 12 → ∀ j, j < 12 → i ≠ j → Cond.not (.eq (.static "StarBailiff$Command" (nmC.getD i "") "LStarBailiff$Command;") (.static "StarBailiff$Command" (nmC.getD j "") "LStarBailiff$Command;")) ∈ flatC (Jvm.Cond.and given_1 narrow_1) ∨ Cond.not (.eq (.static "StarBailiff$Command" (nmC.getD j "") "LStarBailiff$Command;") (.static "StarBailiff$Command" (nmC.getD i "") "LStarBailiff$Command;")) ∈ flatC (Jvm.Cond.and given_1 narrow_1) := by decide +kernel
theorem lsC : ∀ i, i < 12 → Cond.laysStatic "StarBailiff$Command" (nmC.getD i "") "LStarBailiff$Command;" ∈ lw_tbl := by decide +kernel
theorem smC : ∀ i, i < 12 → Cond.eq (.elem (.static "StarBailiff$1" "$SwitchMap$StarBailiff$Command" "[I") (.int (Int32.ofNat i))) (.int (nI (i + 1))) ∈ flatC (Jvm.Cond.and given_1 narrow_1) := by decide +kernel
/-- the commands lie at cm; the switch's map at sm -/
def StC (X : Cx) (cm : Nat → Nat) (sm : Nat) : Prop := va_En "StarBailiff$Command" "LStarBailiff$Command;" nmC fC cm (gA X) X.s X.s.heap ∧ va_Z "StarBailiff$1" "$SwitchMap$StarBailiff$Command" "[I" (.ref sm) (gA X) X.s X.s.heap ∧ va_T .int sm 12 (fun j => .int (nI (j + 1))) (gA X) X.s X.s.heap ∧ va_Z "java/lang/String" "COMPACT_STRINGS" "Z" (.int 1) (gA X) X.s X.s.heap
theorem StC_of {X : Cx} (h0 : Init X) : ∃ cm sm, StC X cm sm := by
  have hT := h0.2.1
  obtain ⟨cm, hcm⟩ := va_Enof (args := #[Value.ref X.b]) (s := X.s) (E := "StarBailiff$Command") (d := "LStarBailiff$Command;") (nm := nmC) (F := fC) (A := gA X) (fun i hi => hT _ (lsC i hi)) (hT _ (List.mem_filter.mp wz_X1).1) (fun i hi => fl h0 (exC i hi)) (fun q hq i hi => by rw [List.mem_singleton.mp hq]; exact fl h0 (odC i hi)) (fun i j hi hj hne => (ndC i hi j hj hne).imp (fun h => fl h0 h) (fun h => fl h0 h)) (gA_old X)
  obtain ⟨sm, hsm, hsT⟩ := va_Tof (args := #[Value.ref X.b]) (s := X.s) (tm := .static "StarBailiff$1" "$SwitchMap$StarBailiff$Command" "[I") (ty := .int) (N := 12) (f := fun j => .int (nI (j + 1))) (A := gA X) (by decide) (fl h0 (by decide +kernel)) (va_eqt (z := Int32.ofNat 12) (fl h0 (by decide +kernel))) (fun j hj => va_eqt (fl h0 (smC j hj))) (gA_old X)
  exact ⟨cm, sm, hcm, va_Zof (hT _ wls_X0__SwitchMap_StarBailiff_Command) (hT _ (List.mem_filter.mp wz_X0).1) hsm (gA_old X), hsT, va_Zof (hT _ wls_J0_COMPACT_STRINGS) (hT _ (List.mem_filter.mp wz_J0).1) (va_eqi (fl h0 (by decide +kernel))) (gA_old X)⟩
theorem GC.Z {X : Cx} {U : State} (h : GC X U) {C n d : String} {v : Value} {A : Nat → Prop} (hA : ∀ q, q < X.z → ¬ A q) (hz : va_Z C n d v (gA X) X.s X.s.heap) : va_Z C n d v A U U.heap := ((va_Z.moved h.1.alike hz).kept h.old).narrow (gA_nar hA)
theorem GC.T {X : Cx} {U : State} (h : GC X U) {ty : FieldType} {t N : Nat} {f : Nat → Value} {A : Nat → Prop} (hA : ∀ q, q < X.z → ¬ A q) (hz : va_T ty t N f (gA X) X.s X.s.heap) : va_T ty t N f A U U.heap := ((va_T.moved h.1.alike hz).kept h.old).narrow (gA_nar hA)
theorem GC.E {X : Cx} {U : State} (h : GC X U) {E d : String} {nm : List String} {F : List (String × String × String × List Int32)} {ad : Nat → Nat} {A : Nat → Prop} (hA : ∀ q, q < X.z → ¬ A q) (hz : va_En E d nm F ad (gA X) X.s X.s.heap) : va_En E d nm F ad A U U.heap := ((va_En.moved h.1.alike hz).kept h.old).narrow (gA_nar hA)
theorem GC.OF {X : Cx} {U : State} (h : GC X U) {o n d : String} {v : Value} {t : Nat} {A : Nat → Prop} (hA : ∀ q, q < X.z → ¬ A q) (hz : va_OF o n d v t (gA X) X.s X.s.heap) : va_OF o n d v t A U U.heap := ((va_OF.moved h.1.alike hz).kept h.old).narrow (gA_nar hA)
