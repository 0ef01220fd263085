section
variable {X : Cx} {p : Program} {l : Launch} {e : Env} {R : Room} {s : State} {m : MethodId} {args : Array Value} {below : List Frame} {meth : Method} {c : Code} {H : Heap} {locs : List Loc} {cells slots : Nat} {Q : State → Prop}
variable {cc : ByteArray} {nL pc : Nat} {ls : Array Slot} {st rest : List Value} {own : String} {ret : Option FieldType} {A : Nat → Prop} {Bh : Heap → Prop}
variable {y x : MethodName} {bytes : ByteArray} {maxL idx n fr lo mc ms : Nat} {ret' : Option FieldType} {b : Addr} {As : List Value} {Qc : Array Value → State → Outcome → State → Prop} {free : Addr → Prop}
/-- an inherited method, by another class' name -/
theorem grU {C owner : String} (h0 : Init X) (hF : FX X p s m meth c cc nL ret own) (hM : Met l y [Cond.code y bytes maxL ret'] ({ frames := fr, cells := mc, slots := ms, locals := lo } : Room) (va_Pc (.ref b :: As) (fun U => GC X U ∧ Bh U.heap)) Qc mc ms free)
    (hw1 : Cond.methodLink own idx x ∈ gTs) (hw2 : Cond.instanceMethod y ∈ gTs) (hw3 : Cond.selects C x y ∈ gTs) (hw4 : Cond.initialized y.cls ∈ gTs) (hw5 : Cond.code y bytes maxL ret' ∈ gTs) (hw6 : Cond.sameMethod x.cls owner x.name x.desc ∈ gTs)
    (hyx : y = ⟨owner, x.name, x.desc⟩) (hy : owner ≠ "java/lang/invoke/MethodHandle" ∧ owner ≠ "java/lang/invoke/VarHandle" ∧ (parseMethodDescriptor x.desc).map (fun d => d.parameters.length) = some n) (hn : As.length = n) (hR : fr + 1 ≤ R.frames ∧ 8 + (maxL + 11) + lo ≤ R.locals)
    (hrec : ∃ cell : Cell, H[b]? = some cell ∧ cell.vm.isStatics = false ∧ s.vm.findClass C = some cell.cls) (hB : Bh H) (hS : va_S A s.heap H locs) (hA : ∀ q, q < X.z → ¬ A q) (hcs : cells + mc ≤ R.cells ∧ slots + ms ≤ R.slots)
    (hls : ls.size = nL) (hst : st = As.reverse ++ .ref b :: rest) (hW : (rest.map fun v => v.category).sum ≤ 8) (hdg : decode cc pc = .ok (.invokevirtual idx, 3)) :
    va_Run p l e R s m args below meth c H locs cells slots mc ms (F0 m pc ls st) rest (Qc (Value.ref b :: As).toArray) free := by
  obtain ⟨hx, hb, hml, hr, hlk, hown, hG⟩ := hF
  have hts := hG.hts h0 args
  refine va_runU (C := C) (owner := owner) (x := x) (n := n) ⟨hx, hb, hml, hown, hts⟩ hM ⟨⟨rfl, rfl, hR.1, hR.2, ?_, List.mem_cons_self⟩, hts _ hw5, hts _ hw4, ⟨hy.1, hy.2.1⟩, fun sig h => ?_, hts _ hw1, hts _ hw6, ?_, hts _ hw3, hts _ hw2⟩ ⟨fun a U g mk q => q, hrec, fun U hU hW => ⟨rfl, GC.move hG hS hA hU hW, by rw [hU]; exact hB⟩⟩ rfl hn hls hst (lv_room hW) hdg hcs
  · intro w hw a' U hW
    rw [List.mem_singleton.mp hw]
    exact word_at (State.WarmedH.trans hG.1 hW) (good_of_word (List.mem_filter.mp hw5).2) (h0.2.1 _ (List.mem_filter.mp hw5).1)
  · have h2 := hy.2.2
    rw [h] at h2
    exact (Option.some.inj h2).symm
  · rw [← hyx]
    exact va_Decl.of (hts _ hw2) (hts _ hw5)
/-- the superclass' own method, on this -/
theorem grSU (h0 : Init X) (hF : FX X p s m meth c cc nL ret own) (hM : Met l y [Cond.code y bytes maxL ret'] ({ frames := fr, cells := mc, slots := ms, locals := lo } : Room) (va_Pc (.ref b :: As) (fun U => GC X U ∧ Bh U.heap)) Qc mc ms free)
    (hw1 : Cond.methodLink own idx y ∈ gTs) (hw2 : Cond.instanceMethod y ∈ gTs) (hw3 : Cond.superclass own y.cls ∈ gTs) (hw4 : Cond.initialized y.cls ∈ gTs) (hw5 : Cond.code y bytes maxL ret' ∈ gTs) (hw6 : Cond.sameMethod y.cls y.cls y.name y.desc ∈ gTs)
    (hy : y.name ≠ "<init>" ∧ (parseMethodDescriptor y.desc).map (fun d => d.parameters.length) = some n) (hn : As.length = n) (hR : fr + 1 ≤ R.frames ∧ 8 + (maxL + 11) + lo ≤ R.locals)
    {ci N : Nat} {C : String} {T : u_T} (hrec : ∃ fs, va_at X.D vwCl (b, .inr (ci, fs)) H) (hc : vwCl[ci]? = some (C, T, N)) (hB : Bh H) (hS : va_S A s.heap H locs) (hA : ∀ q, q < X.z → ¬ A q) (hcs : cells + mc ≤ R.cells ∧ slots + ms ≤ R.slots)
    (hls : ls.size = nL) (hst : st = As.reverse ++ .ref b :: rest) (hW : (rest.map fun v => v.category).sum ≤ 8) (hdg : decode cc pc = .ok (.invokespecial idx, 3)) :
    va_Run p l e R s m args below meth c H locs cells slots mc ms (F0 m pc ls st) rest (Qc (Value.ref b :: As).toArray) free := by
  obtain ⟨hx, hb, hml, hr, hlk, hown, hG⟩ := hF
  have hts := hG.hts h0 args
  have hKn := (hG.K h0).1 ci _ hc
  obtain ⟨fs, q', h1, cell, g1, g2, g3, -⟩ := hrec
  refine va_runSU (C := C) (n := n) hKn.2 ⟨hx, hb, hml, hown, hts⟩ hM ⟨⟨rfl, rfl, hR.1, hR.2, ?_, List.mem_cons_self⟩, hts _ hw1, hts _ hw6, hts _ hw3, hts _ hw2, hts _ hw4, hts _ hw5, hy.1, fun sig h => ?_⟩ ⟨fun a U g mk q => q, ⟨cell, g1, by rw [g3]; rfl, by rw [g2]; exact hKn.2.1⟩, fun U hU hW => ⟨rfl, GC.move hG hS hA hU hW, by rw [hU]; exact hB⟩⟩ rfl hn hls hst (lv_room hW) hdg hcs
  · intro w hw a' U hW
    rw [List.mem_singleton.mp hw]
    exact word_at (State.WarmedH.trans hG.1 hW) (good_of_word (List.mem_filter.mp hw5).2) (h0.2.1 _ (List.mem_filter.mp hw5).1)
  · have h2 := hy.2
    rw [h] at h2
    exact (Option.some.inj h2).symm
end
set_option maxHeartbeats 4000000 in
set_option maxRecDepth 100000 in
theorem m_ordinal {X : Cx} {l : Launch} (h0 : Init X) {cm : Nat → Nat} {sm : Nat} (hC : StC X cm sm) (i : Nat) (hi : i < 12) : PM X l yJx29ce0_ordinal_8abf5 cJx29ce0_ordinal_8abf5 1 (some .int) 0 0 [.ref (cm i)] noW (.int (orC.getD i 0)) := by
  refine Met.mk (Bh := noW) (by decide) (Nat.le_of_ble_eq_true rfl) ?_
  intro p e s m below meth c ls hF hB hl
  have hl : lv_has ls 1 [(0, .ref (cm i))] := hl
  obtain ⟨hx, hb, hml, hr, hlk, hown, hG⟩ := id hF
  have hS : va_S noA s.heap s.heap [] := va_S.rf
  refine lv_aload_n hx hb dJx29ce0_ordinal_8abf5_0 rfl (lv_at hl 0 rfl) ?_
  refine va_getE (q := ("java/lang/Enum", "ordinal", "I", orC)) hx hb (hG.E noA_old hC.1) hi hS hown (List.mem_cons_self) (hG.hts h0 _ _ wf_Jx29ce0_7) (fun _ h9 => h9) dJx29ce0_ordinal_8abf5_1 ?_
  exact pm_iret hF dJx29ce0_ordinal_8abf5_4 rfl
/-- a command, carried out on a sky -/
def oCmd (k : Sk) (E : Nat → Int32) (cmd : Nat) (a b c : Int32) : R3 := match cmd with
  | 0 => oStar k E a b
  | 1 => oRoof k E a
  | 2 => oCloud k E a b
  | 3 => oSight k E a b
  | 4 => oClaim k E a b
  | 5 => oDrop k E a
  | 6 => oWish k E a b c
  | 7 => oPay k E a b
  | 8 => oPound k E a
  | 9 => oRedeem k E a
  | 10 => oStay k E a b
  | _ => ((oDawn k).1, (oDawn k).2, E)
