theorem wpv_ens : Cond.privateMethod yJ5_ensureCapacityInternal_d00df ∈ lw_tbl := tmem 687 (by decide +kernel)
theorem wpv_ncp : Cond.privateMethod yJ5_newCapacity_0f7a4 ∈ lw_tbl := tmem 691 (by decide +kernel)
theorem GC.priv {X : Cx} {U : State} (h0 : Init X) (h : GC X U) (A : Array Value) {y : MethodName} (hw : Cond.privateMethod y ∈ lw_tbl) : (Cond.privateMethod y).before A U = true := va_tabs (A := #[]) rfl (rfl : (X.s.setVm U.vm).vm = U.vm) (by rw [Cond.privateMethod_setVm h.1.alike]; exact va_tabs rfl rfl (h0.2.1 _ hw))
/-- a private method of the builder's superclass is what a builder answers by -/
theorem selPJ {y : MethodName} {s : State} {a : Array Value} (hts : ∀ w ∈ gTs, w.before a s = true) (hy : y.cls = RJ5) (hp : (Cond.privateMethod y).before a s = true) (hi : Cond.instanceMethod y ∈ gTs) : (Cond.selects RJ4 y y).before a s = true := by
  obtain ⟨c, k, hc, hk, -, hniab, -, -⟩ := Cond.instantiable_spec (hts _ wi_J4)
  obtain ⟨mk, methM, hnamed, hmethM, -, -⟩ := Cond.instanceMethod_spec (hts _ hi)
  have hfound : s.methodFound? y.cls y.name y.desc = some mk := State.methodFound?_of_named hnamed (by rw [hy]; exact ⟨by decide, by decide⟩)
  obtain ⟨c2, r2, m2, -, -, q3, -, kP, hkP, hkPi⟩ := Cond.selects_spec (hts _ ws_J4__J5_isLatin1_aae02)
  have h1 := findClass_of_methodNamed hnamed
  have h2 : s.vm.findClass RJ5 = some m2.cls := findClass_of_methodNamed q3
  rw [hy] at h1
  have hcls : mk.cls = m2.cls := Option.some.inj (h1.symm.trans h2)
  have hsel : selectMethod {} s.vm c mk = .method mk := selectMethod_private hmethM (Cond.privateMethod_at hp mk methM hnamed hmethM)
  simp only [Cond.before, Cond.holds, Cond.value, hc, hfound, hnamed, hsel, hcls, hkP]
  simp [hkPi]
section
variable {X : Cx} {p : Program} {l : Launch} {e : Env} {R : Room} {s : State} {m : MethodId} {args : Array Value} {below : List Frame} {meth : Method} {c : Code} {H : Heap} {locs : List Loc} {cells slots : Nat} {Q : State → Prop}
variable {cc : ByteArray} {nL pc : Nat} {ls : Array Slot} {st rest : List Value} {own : String} {ret : Option FieldType} {A : Nat → Prop} {Bh : Heap → Prop}
variable {y : MethodName} {bytes : ByteArray} {maxL idx n fr lo mc ms : Nat} {ret' : Option FieldType} {b : Addr} {As : List Value} {Qc : Array Value → State → Outcome → State → Prop} {free : Addr → Prop}
theorem grPV (h0 : Init X) (hF : FX X p s m meth c cc nL ret own) (hM : Met l y [Cond.code y bytes maxL ret'] ({ frames := fr, cells := mc, slots := ms, locals := lo } : Room) (va_Pc (.ref b :: As) (fun U => GC X U ∧ Bh U.heap)) Qc mc ms free)
    (hw1 : Cond.methodLink own idx y ∈ gTs) (hw2 : Cond.instanceMethod y ∈ gTs) (hw3 : Cond.privateMethod y ∈ lw_tbl) (hw4 : Cond.initialized y.cls ∈ gTs) (hw5 : Cond.code y bytes maxL ret' ∈ gTs) (hw6 : Cond.sameMethod y.cls y.cls y.name y.desc ∈ gTs)
    (hyc : y.cls = RJ5) (hy : (parseMethodDescriptor y.desc).map (fun d => d.parameters.length) = some n) (hn : As.length = n) (hR : fr + 1 ≤ R.frames ∧ 8 + (maxL + 11) + lo ≤ R.locals)
    (hrec : ∃ fs, va_at X.D vwCl (b, .inr (0, fs)) H) (hB : Bh H) (hS : va_S A s.heap H locs) (hA : ∀ q, q < X.z → ¬ A q) (hcs : cells + mc ≤ R.cells ∧ slots + ms ≤ R.slots)
    (hls : ls.size = nL) (hst : st = As.reverse ++ .ref b :: rest) (hW : (rest.map fun v => v.category).sum ≤ 8) (hdg : decode cc pc = .ok (.invokevirtual idx, 3)) :
    va_Run p l e R s m args below meth c H locs cells slots mc ms (F0 m pc ls st) rest (Qc (Value.ref b :: As).toArray) free := by
  obtain ⟨hx, hb, hml, hr, hlk, hown, hG⟩ := hF
  have hts := hG.hts h0 args
  have hKn := (hG.K h0).1 0 _ (show vwCl[0]? = some (RJ4, TJ4, 4) from rfl)
  obtain ⟨fs, q', h1, cell, g1, g2, g3, -⟩ := hrec
  have hne : y.cls ≠ "java/lang/invoke/MethodHandle" ∧ y.cls ≠ "java/lang/invoke/VarHandle" := by rw [hyc]; exact ⟨by decide, by decide⟩
  refine va_runU (C := RJ4) (owner := y.cls) (x := y) (n := n) ⟨hx, hb, hml, hown, hts⟩ hM ⟨⟨rfl, rfl, hR.1, hR.2, ?_, List.mem_cons_self⟩, hts _ hw5, hts _ hw4, hne, fun sig h => ?_, hts _ hw1, hts _ hw6, ?_, selPJ hts hyc (hG.priv h0 _ hw3) hw2, hts _ hw2⟩ ⟨fun a U g mk q => q, ⟨cell, g1, by rw [g3]; rfl, by rw [g2]; exact hKn.2.1⟩, fun U hU hW => ⟨rfl, GC.move hG hS hA hU hW, by rw [hU]; exact hB⟩⟩ rfl hn hls hst (lv_room hW) hdg hcs
  · intro w hw a' U hW
    rw [List.mem_singleton.mp hw]
    exact word_at (State.WarmedH.trans hG.1 hW) (good_of_word (List.mem_filter.mp hw5).2) (h0.2.1 _ (List.mem_filter.mp hw5).1)
  · have h2 := hy
    rw [h] at h2
    exact (Option.some.inj h2).symm
  · exact va_Decl.of (hts _ hw2) (hts _ hw5)
/-- bytes read and written -/
theorem g_bald {D : va_G} {cl : List vw_C} {tys : List (ClassId × FieldType)} {ws : va_W} {a : Nat} (hx : p.tables.exec = Jvm.exec) (hb : c.code = cc) (hK : va_K D cl tys s) (hP : va_P D cl ws H) (q0 t0 : Nat) {cA : ClassId} {n' : Nat} {f : Nat → Int32} (ha : ws[q0]? = some (a, .inl (cA, n', .inl f))) (ht : tys[t0]? = some (cA, .byte)) {i : Int32} (j : Nat) (hi : i = nI j) (hj : j < n') (hn : n' < 2147483648) (hdg : decode cc pc = .ok (.baload, 1))
    (kk : W p l e R s m args below meth c H locs cells slots Q (F0 m (pc + 1) ls (.int (f j) :: rest))) : W p l e R s m args below meth c H locs cells slots Q (F0 m pc ls (.int i :: .ref a :: rest)) := by
  subst hi
  refine va_bald hx hb hK hP q0 t0 ha ht (vp_in_nI hj hn) hdg ?_
  rw [nI_clamp (Nat.lt_trans hj hn)]
  exact kk
theorem g_bast {ow : Nat → Nat} {t a : Nat} {tys : List (ClassId × FieldType)} {ws : va_W} (hx : p.tables.exec = Jvm.exec) (hb : c.code = cc) (hK : va_K X.D vwCl tys s) (hT : Tw X ow t ws H) (hS : va_S A s.heap H locs) (hA : A a) (q0 t0 : Nat) {cA : ClassId} {n' : Nat} {f : Nat → Int32} (ha : ws[q0]? = some (a, .inl (cA, n', .inl f))) (ht : tys[t0]? = some (cA, .byte)) {i x y : Int32} (j : Nat) (hi : i = nI j) (hj : j < n') (hn : n' < 2147483648) (hy : vp_nar .byte x = y) (hdg : decode cc pc = .ok (.bastore, 1))
    (kk : ∀ (H1 : Heap) (locs1 : List Loc), (∀ q : Nat, q ≠ a → H1[q]? = H[q]?) → H1.size = H.size → Tw X ow t (ws.set q0 (a, .inl (cA, n', .inl (upd f j y)))) H1 → va_S A s.heap H1 locs1 → W p l e R s m args below meth c H1 locs1 cells slots Q (F0 m (pc + 1) ls rest)) : W p l e R s m args below meth c H locs cells slots Q (F0 m pc ls (.int x :: .int i :: .ref a :: rest)) := by
  subst hi hy
  have hin : vp_in (nI j) n' := vp_in_nI hj hn
  refine W.bast hx hb (hT.1 q0 _ ha) ((hK.2 t0 _ ht).1 n' (fun j => .int (f j))) (fun q => by cases q) (by show ¬ (nI j < 0 ∨ (arrV _ _ _).slots.size ≤ _); rw [arrV_size]; exact hin) rfl rfl hdg fun H1 e1 z oq => ?_
  have he : va_at X.D vwCl (a, .inl (cA, n', .inl (upd f j (vp_nar .byte x)))) H1 := by
    show H1[a]? = some (vp_cell _ _)
    rw [e1, vp_cell_i, vp_cell_i, arrV_store, nI_clamp (Nat.lt_trans hj hn)]
    congr 2
    funext q
    by_cases hq : q = j
    · subst hq
      simp [updV, upd, vp_nar]
      try rfl
    · simp [updV, upd, hq]
  exact kk H1 _ oq z (hT.set q0 ha he oq) (hS.put z oq hA)
end
theorem Tw.fresh {X : Cx} {ow : Nat → Nat} {t u v : Nat} {ws : va_W} {H : Heap} (h : Tw X ow t ws H) (hv : H.size ≤ v) : Tw X (fun q => if q = v then u else ow q) t ws H :=
  ⟨h.1, h.2.1, fun k q hk => by
    have h1 := (h.1 k q hk).lt
    show (if q.1 = v then u else ow q.1) = t
    rw [if_neg (by omega)]
    exact h.2.2 k q hk⟩
theorem Tw.re {X : Cx} {ow ow' : Nat → Nat} {t N : Nat} {ws : va_W} {H : Heap} (h : Tw X ow t ws H) (hN : H.size ≤ N) (ha : ∀ q, q < N → ow' q = ow q) : Tw X ow' t ws H :=
  ⟨h.1, h.2.1, fun k q hk => by
    have h1 := (h.1 k q hk).lt
    show ow' q.1 = t
    rw [ha _ (by omega)]
    exact h.2.2 k q hk⟩
theorem Tw.keepN {X : Cx} {ow : Nat → Nat} {t u N : Nat} {ws : va_W} {H H1 : Heap} (h : Tw X ow t ws H) (hk : ∀ q : Nat, q < H.size → ¬ (ow q = u ∨ N ≤ q) → H1[q]? = H[q]?) (hu : t ≠ u) (hN : H.size ≤ N) : Tw X ow t ws H1 :=
  ⟨h.1.kept (fun k q hq => by
    have h1 := (h.1 k q hq).lt
    refine hk q.1 h1 (fun h2 => ?_)
    rcases h2 with h2 | h2
    · exact hu (by rw [← h2]; exact (h.2.2 k q hq).symm)
    · omega), h.2⟩
theorem sub_le0 {a b : Nat} (ha : a < 2 ^ 30) (hb : b < 2 ^ 30) : nI a - nI b ≤ 0 ↔ a ≤ b := by
  rw [Int32.le_iff_toInt_le, pk_sub_toInt ha hb, Int32.toInt_zero]
  omega
/-- the statics of the library that the builder's methods read -/
theorem siZ {X : Cx} (h0 : Init X) : va_Zq "jdk/internal/util/Preconditions" "SIOOBE_FORMATTER" "Ljava/util/function/BiFunction;" (gA X) X.s X.s.heap := va_Zqof (h0.2.1 _ wls_J3_SIOOBE_FORMATTER) (h0.2.1 _ (List.mem_filter.mp wz_J3).1) (fl h0 (by decide +kernel)) (gA_old X)
theorem csZ {X : Cx} (h0 : Init X) : va_Z "java/lang/String" "COMPACT_STRINGS" "Z" (.int 1) (gA X) X.s X.s.heap := va_Zof (h0.2.1 _ wls_J0_COMPACT_STRINGS) (h0.2.1 _ (List.mem_filter.mp wz_J0).1) (va_eqi (fl h0 (by decide +kernel))) (gA_old X)
theorem memD {L : List Cond} {p n : Nat} {f : Nat → Cond} (h : (L.drop p).take n = (List.range n).map f) : ∀ i, i < n → f i ∈ L := fun i hi => List.mem_of_mem_drop (List.mem_of_mem_take (by rw [h]; exact List.mem_map.mpr ⟨i, List.mem_range.mpr hi, rfl⟩))
theorem dgO : ∀ i, i < 100 → Cond.eq (.elem (.static "java/lang/Integer" "DigitOnes" "[B") (.int (Int32.ofNat i))) (.int (nI (48 + i % 10))) ∈ flatC (Jvm.Cond.and given_1 narrow_1) := memD (p := 179) (by decide +kernel)
theorem dgT : ∀ i, i < 100 → Cond.eq (.elem (.static "java/lang/Integer" "DigitTens" "[B") (.int (Int32.ofNat i))) (.int (nI (48 + i / 10))) ∈ flatC (Jvm.Cond.and given_1 narrow_1) := memD (p := 282) (by decide +kernel)
theorem doZ {X : Cx} (h0 : Init X) : ∃ t, va_Z "java/lang/Integer" "DigitOnes" "[B" (.ref t) (gA X) X.s X.s.heap ∧ va_T .byte t 100 (fun j => .int (nI (48 + j % 10))) (gA X) X.s X.s.heap := by
  obtain ⟨t, h1, h2⟩ := va_Tof (args := #[Value.ref X.b]) (s := X.s) (tm := .static "java/lang/Integer" "DigitOnes" "[B") (ty := .byte) (N := 100) (f := fun j => .int (nI (48 + j % 10))) (A := gA X) (by decide) (fl h0 (by decide +kernel)) (va_eqt (z := Int32.ofNat 100) (fl h0 (by decide +kernel))) (fun j hj => va_eqt (fl h0 (dgO j hj))) (gA_old X)
  exact ⟨t, va_Zof (h0.2.1 _ wls_J6_DigitOnes) (h0.2.1 _ (List.mem_filter.mp wz_J6).1) h1 (gA_old X), h2⟩
theorem dtZ {X : Cx} (h0 : Init X) : ∃ t, va_Z "java/lang/Integer" "DigitTens" "[B" (.ref t) (gA X) X.s X.s.heap ∧ va_T .byte t 100 (fun j => .int (nI (48 + j / 10))) (gA X) X.s X.s.heap := by
  obtain ⟨t, h1, h2⟩ := va_Tof (args := #[Value.ref X.b]) (s := X.s) (tm := .static "java/lang/Integer" "DigitTens" "[B") (ty := .byte) (N := 100) (f := fun j => .int (nI (48 + j / 10))) (A := gA X) (by decide) (fl h0 (by decide +kernel)) (va_eqt (z := Int32.ofNat 100) (fl h0 (by decide +kernel))) (fun j hj => va_eqt (fl h0 (dgT j hj))) (gA_old X)
  exact ⟨t, va_Zof (h0.2.1 _ wls_J6_DigitTens) (h0.2.1 _ (List.mem_filter.mp wz_J6).1) h1 (gA_old X), h2⟩
