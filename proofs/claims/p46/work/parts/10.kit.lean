/-! the own kit: a context, contracts over it, calls -/
/-- the class ids of the claim's tables, the script's cell, the law's start -/
def Cx : Type := va_G × (ClassId × ClassId × ClassId) × Nat × State
def Cx.D (X : Cx) : va_G := X.1
def Cx.cI (X : Cx) : ClassId := X.2.1.1
def Cx.cB (X : Cx) : ClassId := X.2.1.2.1
def Cx.cS (X : Cx) : ClassId := X.2.1.2.2
def Cx.b (X : Cx) : Nat := X.2.2.1
def Cx.s (X : Cx) : State := X.2.2.2
def Cx.z (X : Cx) : Nat := X.s.heap.size
abbrev gTY (X : Cx) : List (ClassId × FieldType) := [(X.cI, .int), (X.cB, .byte), (X.cS, .object RX5)]
def Init (X : Cx) : Prop := va_K X.D vwCl (gTY X) X.s ∧ (∀ w ∈ lw_tbl, w.before #[Value.ref X.b] X.s = true) ∧ (Jvm.Cond.and given_1 narrow_1).before #[Value.ref X.b] X.s = true
/-- a state that comes from the law's start: its tables are warmed, no old cell has changed -/
def GC (X : Cx) (U : State) : Prop := X.s.WarmedH U.vm ∧ X.z ≤ U.heap.size ∧ ∀ q : Nat, q < X.z → U.heap[q]? = X.s.heap[q]?
theorem GC.K {X : Cx} {U : State} (h0 : Init X) (h : GC X U) : va_K X.D vwCl (gTY X) U := va_K.moved h.1.alike h0.1
theorem GC.hts {X : Cx} {U : State} (h0 : Init X) (h : GC X U) (a : Array Value) : ∀ w ∈ gTs, w.before a U = true := fun w hw => by
  obtain ⟨h1, h2⟩ := List.mem_filter.mp hw
  exact word_at h.1 (good_of_word h2) (h0.2.1 w h1)
theorem GC.nestM {X : Cx} {U : State} (h0 : Init X) (h : GC X U) (A : Array Value) {a : String} {i : Nat} {x : MethodName} {n : String} (hw : Cond.methodLinkNest a i x n ∈ lw_tbl) : (Cond.methodLinkNest a i x n).before A U = true := va_Nw.use rfl (va_Nw.warmM h.1 (va_Nw.of rfl (h0.2.1 _ hw)))
theorem GC.move {X : Cx} {s U : State} {A : Nat → Prop} {H : Heap} {locs : List Loc} (hG : GC X s) (hS : va_S A s.heap H locs) (hA : ∀ q, q < X.z → ¬ A q) (hU : U.heap = H) (hW : s.WarmedH U.vm) : GC X U :=
  ⟨State.WarmedH.trans hG.1 hW, by rw [hU]; exact Nat.le_trans hG.2.1 hS.1, fun q hq => by rw [hU, hS.2.1 q (Nat.lt_of_lt_of_le hq hG.2.1) (hA q hq)]; exact hG.2.2 q hq⟩
/-- the posts: an answer and nothing changed; an answer, what the heap then holds, and the frame -/
def qP (v : Value) : Array Value → State → Outcome → State → Prop := fun _ st o t => o = .returned (some v) ∧ t.heap = st.heap
def qM (post : Option Value → Heap → Prop) (A : Nat → Prop) : Array Value → State → Outcome → State → Prop := fun _ st o t => ∃ v, o = .returned v ∧ post v t.heap ∧ va_F A st t
def noA : Nat → Prop := fun _ => False
def PM (X : Cx) (l : Launch) (y : MethodName) (cc : ByteArray) (nL : Nat) (ret : Option FieldType) (fr lo : Nat) (av : List Value) (Bh : Heap → Prop) (v : Value) : Prop :=
  Met l y [Cond.code y cc nL ret] ({ frames := fr, cells := 0, slots := 0, locals := lo } : Room) (va_Pc av (fun U => GC X U ∧ Bh U.heap)) (qP v) 0 0 noA
def MM (X : Cx) (l : Launch) (y : MethodName) (cc : ByteArray) (nL : Nat) (ret : Option FieldType) (fr lo mc ms : Nat) (av : List Value) (Bh : Heap → Prop) (post : Option Value → Heap → Prop) (A : Nat → Prop) : Prop :=
  Met l y [Cond.code y cc nL ret] ({ frames := fr, cells := mc, slots := ms, locals := lo } : Room) (va_Pc av (fun U => GC X U ∧ Bh U.heap)) (qM post A) mc ms A
def FX (X : Cx) (p : Program) (s : State) (m : MethodId) (meth : Method) (c : Code) (cc : ByteArray) (nL : Nat) (ret : Option FieldType) (own : String) : Prop :=
  p.tables.exec = Jvm.exec ∧ c.code = cc ∧ c.maxLocals = nL ∧ meth.sig.returnType = ret ∧ meth.locks = false ∧ s.vm.findClass own = some m.cls ∧ GC X s
section
variable {X : Cx} {l : Launch} {y : MethodName} {cc : ByteArray} {nL : Nat} {ret : Option FieldType} {fr lo mc ms : Nat} {av : List Value} {Bh : Heap → Prop} {v : Value} {post : Option Value → Heap → Prop} {A : Nat → Prop}
theorem Met.mk {Qc : Array Value → State → Outcome → State → Prop} {free : Addr → Prop} (hy : plainName y.cls = true) (hn : (lg_sl av).length ≤ nL)
    (body : ∀ (p : Program) (e : Env) (s : State) (m : MethodId) (below : List Frame) (meth : Method) (c : Code) (ls : Array Slot), FX X p s m meth c cc nL ret y.cls → Bh s.heap → lv_has ls nL (lv_args 0 av) →
      W p l e ({ frames := fr, cells := mc, slots := ms, locals := lo } : Room) s m av.toArray below meth c s.heap [] 0 0 (MQ below Qc av.toArray s mc ms free) (F0 m 0 ls [])) :
    Met l y [Cond.code y cc nL ret] ({ frames := fr, cells := mc, slots := ms, locals := lo } : Room) (va_Pc av (fun U => GC X U ∧ Bh U.heap)) Qc mc ms free := by
  refine Met.ofW (cc := cc) (maxL := nL) (ret := ret) hy rfl ?_
  intro p e s m args below meth c s₁ B hml hv
  obtain ⟨rfl, hG, hB⟩ := hv
  have hl := lv_entry av (n := nL) hn
  rw [lg_entry_eq]
  generalize (lg_sl av ++ List.replicate (nL - (lg_sl av).length) Slot.unset).toArray = ls at hl ⊢
  exact body p e s m below meth c ls ⟨B.exec, B.bytes, hml, B.returns, B.notSynchronized, findClass_of_methodNamed B.named, hG⟩ hB hl
end
section
variable {X : Cx} {p : Program} {l : Launch} {e : Env} {R : Room} {s : State} {m : MethodId} {args : Array Value} {below : List Frame} {meth : Method} {c : Code} {H : Heap} {locs : List Loc} {cells slots : Nat} {Q : State → Prop}
variable {cc : ByteArray} {nL pc : Nat} {ls : Array Slot} {st rest : List Value} {own : String} {ret : Option FieldType} {A : Nat → Prop} {Bh : Heap → Prop}
variable {y : MethodName} {bytes : ByteArray} {maxL idx n fr lo mc ms : Nat} {ret' : Option FieldType} {b : Addr} {As : List Value} {Qc : Array Value → State → Outcome → State → Prop} {free : Addr → Prop}
/-- behind a pure call nothing has changed -/
theorem core_p {v : Value} (hr : va_Run p l e R s m args below meth c H locs cells slots 0 0 (F0 m pc ls st) rest (fun st o t => o = .returned (some v) ∧ t.heap = st.heap) noA)
    (kk : W p l e R s m args below meth c H locs cells slots Q (F0 m (pc + 3) ls (v :: rest))) : W p l e R s m args below meth c H locs cells slots Q (F0 m pc ls st) := by
  intro T hT X1
  obtain ⟨v', st₀, t, T', L, h0, X', hL, e1, e2, ⟨hv, hh⟩, stp⟩ := hr T hT X1
  cases hv
  have hL0 : L = [] := by
    cases L with
    | nil => rfl
    | cons q L => exact absurd (hL q List.mem_cons_self) id
  subst hL0
  rw [List.append_nil] at X'
  obtain ⟨t2, a1, b1⟩ := kk T' (by rw [e1, hh, h0]) X'
  exact ⟨t2, stp t2 a1, b1⟩
theorem core_m {post : Option Value → Heap → Prop} {A1 : Nat → Prop} {av : Array Value} (hr : va_Run p l e R s m args below meth c H locs cells slots mc ms (F0 m pc ls st) rest (qM post A1 av) A1)
    (hS : va_S A s.heap H locs) (hAA : ∀ q, A1 q → A q)
    (kk : ∀ (v : Option Value) (H1 : Heap) (locs1 : List Loc), post v H1 → H.size ≤ H1.size → (∀ q : Nat, q < H.size → ¬ A1 q → H1[q]? = H[q]?) → va_S A s.heap H1 locs1 → W p l e R s m args below meth c H1 locs1 (cells + mc) (slots + ms) Q (F0 m (pc + 3) ls (v.toList ++ rest))) : W p l e R s m args below meth c H locs cells slots Q (F0 m pc ls st) := by
  intro T hT X1
  obtain ⟨v', st₀, t, T', L, h0, X', hL, e1, e2, ⟨v, hv, hp, hz, hk⟩, stp⟩ := hr T hT X1
  cases hv
  rw [h0] at hz hk
  obtain ⟨t2, a1, b1⟩ := kk v' T'.heap (locs ++ L) (by rw [e1]; exact hp) (by rw [e1]; exact hz) (fun q h1 h2 => by rw [e1]; exact hk q h1 h2)
    ⟨Nat.le_trans hS.1 (by rw [e1]; exact hz), fun q h1 h2 => by rw [e1, hk q (Nat.lt_of_lt_of_le h1 hS.1) (fun z => h2 (hAA q z))]; exact hS.2.1 q h1 h2, fun q hq => by
      rcases List.mem_append.mp hq with h | h
      · exact hS.2.2 q h
      · exact hAA _ (hL q h)⟩ T' rfl X'
  exact ⟨t2, stp t2 a1, b1⟩
theorem gB (h0 : Init X) (hG : GC X s) {a : Array Value} (hw1 : Cond.methodLink own idx y ∈ gTs) (hw4 : Cond.initialized y.cls ∈ gTs) (hw5 : Cond.code y bytes maxL ret' ∈ gTs)
    (hy : y.cls ≠ "java/lang/invoke/MethodHandle" ∧ y.cls ≠ "java/lang/invoke/VarHandle" ∧ (parseMethodDescriptor y.desc).map (fun d => d.parameters.length) = some n) (hR : fr + 1 ≤ R.frames ∧ 8 + (maxL + 11) + lo ≤ R.locals) :
    CallB R s a own idx y bytes maxL ret' [Cond.code y bytes maxL ret'] ({ frames := fr, cells := mc, slots := ms, locals := lo } : Room) mc ms n := by
  have hts := hG.hts h0 a
  refine ⟨rfl, rfl, hR.1, hR.2, ?_, List.mem_cons_self, hts _ hw5, hts _ hw4, ⟨hy.1, hy.2.1⟩, fun sig h => ?_, hts _ hw1⟩
  · intro w hw a' U hW
    rw [List.mem_singleton.mp hw]
    exact word_at (State.WarmedH.trans hG.1 hW) (good_of_word (List.mem_filter.mp hw5).2) (h0.2.1 _ (List.mem_filter.mp hw5).1)
  · have h2 := hy.2.2
    rw [h] at h2
    exact (Option.some.inj h2).symm
theorem grV (h0 : Init X) (hF : FX X p s m meth c cc nL ret own) (hM : Met l y [Cond.code y bytes maxL ret'] ({ frames := fr, cells := mc, slots := ms, locals := lo } : Room) (va_Pc (.ref b :: As) (fun U => GC X U ∧ Bh U.heap)) Qc mc ms free)
    (hw1 : Cond.methodLink own idx y ∈ gTs) (hw2 : Cond.instanceMethod y ∈ gTs) (hw3 : Cond.selects y.cls y y ∈ gTs) (hw4 : Cond.initialized y.cls ∈ gTs) (hw5 : Cond.code y bytes maxL ret' ∈ gTs)
    (hy : y.cls ≠ "java/lang/invoke/MethodHandle" ∧ y.cls ≠ "java/lang/invoke/VarHandle" ∧ (parseMethodDescriptor y.desc).map (fun d => d.parameters.length) = some n) (hn : As.length = n) (hR : fr + 1 ≤ R.frames ∧ 8 + (maxL + 11) + lo ≤ R.locals)
    {ci N : Nat} {T : u_T} (hrec : ∃ fs, va_at X.D vwCl (b, .inr (ci, fs)) H) (hc : vwCl[ci]? = some (y.cls, T, N)) (hB : Bh H) (hS : va_S A s.heap H locs) (hA : ∀ q, q < X.z → ¬ A q) (hcs : cells + mc ≤ R.cells ∧ slots + ms ≤ R.slots)
    (hls : ls.size = nL) (hst : st = As.reverse ++ .ref b :: rest) (hW : (rest.map fun v => v.category).sum ≤ 8) (hdg : decode cc pc = .ok (.invokevirtual idx, 3)) :
    va_Run p l e R s m args below meth c H locs cells slots mc ms (F0 m pc ls st) rest (Qc (Value.ref b :: As).toArray) free := by
  obtain ⟨hx, hb, hml, hr, hlk, hown, hG⟩ := hF
  have hts := hG.hts h0 args
  obtain ⟨fs, q', h1, cell, g1, g2, g3, -⟩ := hrec
  refine va_runV (C := y.cls) ⟨hx, hb, hml, hown, hts⟩ hM ⟨gB h0 hG hw1 hw4 hw5 hy hR, hts _ hw2, hts _ hw3⟩ ⟨fun a U g mk q => q, ⟨cell, g1, by rw [g3]; rfl, by rw [g2]; exact ((hG.K h0).1 ci _ h1 |>.2.1 |> fun z => by
      have e := Option.some.inj (h1.symm.trans hc)
      rw [e] at z
      exact z)⟩, fun U hU hW => ⟨rfl, GC.move hG hS hA hU hW, by rw [hU]; exact hB⟩⟩ rfl hn hls hst (lv_room hW) hdg hcs
theorem grS (h0 : Init X) (hF : FX X p s m meth c cc nL ret own) (hM : Met l y [Cond.code y bytes maxL ret'] ({ frames := fr, cells := mc, slots := ms, locals := lo } : Room) (va_Pc As (fun U => GC X U ∧ Bh U.heap)) Qc mc ms free)
    (hw1 : Cond.methodLink own idx y ∈ gTs) (hw2 : Cond.static y ∈ gTs) (hw4 : Cond.initialized y.cls ∈ gTs) (hw5 : Cond.code y bytes maxL ret' ∈ gTs)
    (hy : y.cls ≠ "java/lang/invoke/MethodHandle" ∧ y.cls ≠ "java/lang/invoke/VarHandle" ∧ (parseMethodDescriptor y.desc).map (fun d => d.parameters.length) = some n) (hn : As.length = n) (hR : fr + 1 ≤ R.frames ∧ 8 + (maxL + 11) + lo ≤ R.locals)
    (hB : Bh H) (hS : va_S A s.heap H locs) (hA : ∀ q, q < X.z → ¬ A q) (hcs : cells + mc ≤ R.cells ∧ slots + ms ≤ R.slots)
    (hls : ls.size = nL) (hst : st = As.reverse ++ rest) (hW : (rest.map fun v => v.category).sum ≤ 8) (hdg : decode cc pc = .ok (.invokestatic idx, 3)) :
    va_Run p l e R s m args below meth c H locs cells slots mc ms (F0 m pc ls st) rest (Qc As.toArray) free := by
  obtain ⟨hx, hb, hml, hr, hlk, hown, hG⟩ := hF
  have hts := hG.hts h0 args
  exact va_runS ⟨hx, hb, hml, hown, hts⟩ hM ⟨gB h0 hG hw1 hw4 hw5 hy hR, hts _ hw2⟩ ⟨fun a U g mk q => q, fun U hU hW => ⟨rfl, GC.move hG hS hA hU hW, by rw [hU]; exact hB⟩⟩ rfl hn hls hst (lv_room hW) hdg hcs
theorem grSN {host : String} (h0 : Init X) (hF : FX X p s m meth c cc nL ret own) (hM : Met l y [Cond.code y bytes maxL ret'] ({ frames := fr, cells := mc, slots := ms, locals := lo } : Room) (va_Pc As (fun U => GC X U ∧ Bh U.heap)) Qc mc ms free)
    (hw1 : Cond.methodLinkNest own idx y host ∈ lw_tbl) (hw2 : Cond.static y ∈ gTs) (hw4 : Cond.initialized y.cls ∈ gTs) (hw5 : Cond.code y bytes maxL ret' ∈ gTs)
    (hy : y.cls ≠ "java/lang/invoke/MethodHandle" ∧ y.cls ≠ "java/lang/invoke/VarHandle" ∧ (parseMethodDescriptor y.desc).map (fun d => d.parameters.length) = some n) (hn : As.length = n) (hR : fr + 1 ≤ R.frames ∧ 8 + (maxL + 11) + lo ≤ R.locals)
    (hB : Bh H) (hS : va_S A s.heap H locs) (hA : ∀ q, q < X.z → ¬ A q) (hcs : cells + mc ≤ R.cells ∧ slots + ms ≤ R.slots)
    (hls : ls.size = nL) (hst : st = As.reverse ++ rest) (hW : (rest.map fun v => v.category).sum ≤ 8) (hdg : decode cc pc = .ok (.invokestatic idx, 3)) :
    va_Run p l e R s m args below meth c H locs cells slots mc ms (F0 m pc ls st) rest (Qc As.toArray) free := by
  obtain ⟨hx, hb, hml, hr, hlk, hown, hG⟩ := hF
  have hts := hG.hts h0 args
  refine va_runSN (own := own) (host := host) (n := n) ⟨hx, hb, hml, hown, hts⟩ hM ⟨⟨⟨rfl, rfl, hR.1, hR.2, ?_, List.mem_cons_self⟩, hts _ hw5, hts _ hw4, ⟨hy.1, hy.2.1⟩, fun sig h => ?_, hG.nestM h0 args hw1⟩, hts _ hw2, trivial⟩ ⟨fun a U g mk q => q, fun U hU hW => ⟨rfl, GC.move hG hS hA hU hW, by rw [hU]; exact hB⟩⟩ rfl hn hls hst (lv_room hW) hdg hcs
  · intro w hw a' U hW
    rw [List.mem_singleton.mp hw]
    exact word_at (State.WarmedH.trans hG.1 hW) (good_of_word (List.mem_filter.mp hw5).2) (h0.2.1 _ (List.mem_filter.mp hw5).1)
  · have h2 := hy.2.2
    rw [h] at h2
    exact (Option.some.inj h2).symm
theorem noA_old : ∀ q, q < X.z → ¬ noA q := fun _ _ h => h
theorem pm_iret {v : Value} {r : Int32} (hF : FX X p s m meth c cc nL (some .int) own) (hdg : decode cc pc = .ok (.ireturn, 1)) (he : v = .int r) : W p l e R s m args below meth c s.heap [] 0 0 (MQ below (qP v) args s 0 0 noA) (F0 m pc ls [.int r]) := by
  obtain ⟨hx, hb, hml, hr, hlk, hown, hG⟩ := hF
  subst he
  exact W.iret hx hb hr (fun t ht _ => ⟨rfl, ht⟩) (fun q hq => absurd hq List.not_mem_nil) hdg hlk
theorem pm_zret {v : Value} {r : Int32} {ty : FieldType} (hF : FX X p s m meth c cc nL (some ty) own) (hdg : decode cc pc = .ok (.ireturn, 1)) (hn : narrow ty (.int r) = .int r) (he : v = .int r) : W p l e R s m args below meth c s.heap [] 0 0 (MQ below (qP v) args s 0 0 noA) (F0 m pc ls [.int r]) := by
  obtain ⟨hx, hb, hml, hr, hlk, hown, hG⟩ := hF
  subst he
  exact W.zret hx hb hr hn (fun t ht _ => ⟨rfl, ht⟩) (fun q hq => absurd hq List.not_mem_nil) hdg hlk
theorem mm_iret {post : Option Value → Heap → Prop} {r : Int32} (hF : FX X p s m meth c cc nL (some .int) own) (hS : va_S A s.heap H locs) (hdg : decode cc pc = .ok (.ireturn, 1)) (hp : post (some (.int r)) H) : W p l e R s m args below meth c H locs mc ms (MQ below (qM post A) args s mc ms A) (F0 m pc ls [.int r]) := by
  obtain ⟨hx, hb, hml, hr, hlk, hown, hG⟩ := hF
  exact W.iret hx hb hr (fun t ht _ => ⟨_, rfl, by rw [ht]; exact hp, hS.F ht⟩) hS.2.2 hdg hlk
theorem mm_zret {post : Option Value → Heap → Prop} {r : Int32} {ty : FieldType} (hF : FX X p s m meth c cc nL (some ty) own) (hS : va_S A s.heap H locs) (hdg : decode cc pc = .ok (.ireturn, 1)) (hn : narrow ty (.int r) = .int r) (hp : post (some (.int r)) H) : W p l e R s m args below meth c H locs mc ms (MQ below (qM post A) args s mc ms A) (F0 m pc ls [.int r]) := by
  obtain ⟨hx, hb, hml, hr, hlk, hown, hG⟩ := hF
  exact W.zret hx hb hr hn (fun t ht _ => ⟨_, rfl, by rw [ht]; exact hp, hS.F ht⟩) hS.2.2 hdg hlk
theorem mm_vret {post : Option Value → Heap → Prop} (hF : FX X p s m meth c cc nL none own) (hS : va_S A s.heap H locs) (hdg : decode cc pc = .ok (.return_, 1)) (hp : post none H) : W p l e R s m args below meth c H locs mc ms (MQ below (qM post A) args s mc ms A) (F0 m pc ls []) := by
  obtain ⟨hx, hb, hml, hr, hlk, hown, hG⟩ := hF
  exact W.vret hx hb hr (fun t ht _ => ⟨_, rfl, by rw [ht]; exact hp, hS.F ht⟩) hS.2.2 hdg hlk
/-- the top of the stack, in other words -/
theorem lv_topE {x y : Int32} (h : x = y) (k : W p l e R s m args below meth c H locs cells slots Q (F0 m pc ls (.int y :: rest))) : W p l e R s m args below meth c H locs cells slots Q (F0 m pc ls (.int x :: rest)) := h ▸ k
/-- an array of ints is read at a place that is known to be j -/
theorem g_iald {D : va_G} {cl : List vw_C} {tys : List (ClassId × FieldType)} {ws : va_W} {a : Nat} (hx : p.tables.exec = Jvm.exec) (hb : c.code = cc) (hK : va_K D cl tys s) (hP : va_P D cl ws H) (q0 t0 : Nat) {cA : ClassId} {n' : Nat} {f : Nat → Int32} (ha : ws[q0]? = some (a, .inl (cA, n', .inl f))) (ht : tys[t0]? = some (cA, .int)) {i : Int32} (j : Nat) (hi : i = nI j) (hj : j < n') (hn : n' < 2147483648) (hdg : decode cc pc = .ok (.iaload, 1))
    (kk : W p l e R s m args below meth c H locs cells slots Q (F0 m (pc + 1) ls (.int (f j) :: rest))) : W p l e R s m args below meth c H locs cells slots Q (F0 m pc ls (.int i :: .ref a :: rest)) := by
  subst hi
  refine va_iald hx hb hK hP q0 t0 ha ht (vp_in_nI hj hn) hdg ?_
  rw [nI_clamp (Nat.lt_trans hj hn)]
  exact kk
/-- cells of one owner -/
def Tw (X : Cx) (ow : Nat → Nat) (t : Nat) (ws : va_W) (H : Heap) : Prop := va_P X.D vwCl ws H ∧ va_D (fun q => ow q = t) ws
theorem Tw.set {ow : Nat → Nat} {t a : Nat} {ws : va_W} {H1 : Heap} {e0 e1 : va_E} (h : Tw X ow t ws H) (k : Nat) (hp : ws[k]? = some (a, e0)) (he : va_at X.D vwCl (a, e1) H1) (oq : ∀ q : Nat, q ≠ a → H1[q]? = H[q]?) : Tw X ow t (ws.set k (a, e1)) H1 := ⟨h.1.set h.2 hp he oq, h.2.set hp⟩
theorem Tw.fr1 {ow : Nat → Nat} {t a : Nat} {ws : va_W} {H1 : Heap} (h : Tw X ow t ws H) (oq : ∀ q : Nat, q ≠ a → H1[q]? = H[q]?) (ha : ow a ≠ t) : Tw X ow t ws H1 := ⟨h.1.kept (fun k q hq => oq q.1 (fun z => ha (by rw [← z]; exact h.2.2 k q hq))), h.2⟩
theorem Tw.keep {ow : Nat → Nat} {t : Nat} {ws : va_W} {H1 : Heap} {A1 : Nat → Prop} (h : Tw X ow t ws H) (hk : ∀ q : Nat, q < H.size → ¬ A1 q → H1[q]? = H[q]?) (hA : ∀ q, ow q = t → ¬ A1 q) : Tw X ow t ws H1 := ⟨h.1.kept (fun k q hq => hk q.1 ((h.1 k q hq).lt) (hA _ (h.2.2 k q hq))), h.2⟩
theorem Tw.tag {ow : Nat → Nat} {t : Nat} {ws : va_W} (h : Tw X ow t ws H) (k : Nat) {a : Nat} {e0 : va_E} (hp : ws[k]? = some (a, e0)) : ow a = t := h.2.2 k _ hp
theorem g_iast {ow : Nat → Nat} {t a : Nat} {tys : List (ClassId × FieldType)} {ws : va_W} (hx : p.tables.exec = Jvm.exec) (hb : c.code = cc) (hK : va_K X.D vwCl tys s) (hT : Tw X ow t ws H) (hS : va_S A s.heap H locs) (hA : A a) (q0 t0 : Nat) {cA : ClassId} {n' : Nat} {f : Nat → Int32} (ha : ws[q0]? = some (a, .inl (cA, n', .inl f))) (ht : tys[t0]? = some (cA, .int)) {i x : Int32} (j : Nat) (hi : i = nI j) (hj : j < n') (hn : n' < 2147483648) (hdg : decode cc pc = .ok (.iastore, 1))
    (kk : ∀ (H1 : Heap) (locs1 : List Loc), (∀ q : Nat, q ≠ a → H1[q]? = H[q]?) → Tw X ow t (ws.set q0 (a, .inl (cA, n', .inl (upd f j x)))) H1 → va_S A s.heap H1 locs1 → W p l e R s m args below meth c H1 locs1 cells slots Q (F0 m (pc + 1) ls rest)) : W p l e R s m args below meth c H locs cells slots Q (F0 m pc ls (.int x :: .int i :: .ref a :: rest)) := by
  subst hi
  have hin : vp_in (nI j) n' := vp_in_nI hj hn
  refine W.iast hx hb (hT.1 q0 _ ha) ((hK.2 t0 _ ht).1 n' (fun j => .int (f j))) (fun q => by cases q) (by show ¬ (nI j < 0 ∨ (arrV _ _ _).slots.size ≤ _); rw [arrV_size]; exact hin) rfl rfl hdg fun H1 e1 z oq => ?_
  have he : va_at X.D vwCl (a, .inl (cA, n', .inl (upd f j x))) H1 := by
    show H1[a]? = some (vp_cell _ _)
    rw [e1, vp_cell_i, vp_cell_i, arrV_store, nI_clamp (Nat.lt_trans hj hn)]
    congr 2
    funext q
    by_cases hq : q = j
    · subst hq
      simp [updV, upd]
    · simp [updV, upd, hq]
  exact kk H1 _ oq (hT.set q0 ha he oq) (hS.put z oq hA)
theorem g_put {ow : Nat → Nat} {t a : Nat} {ws : va_W} {T : u_T} {C ref : String} {ci N index : Nat} (h0 : Init X) (hF : FX X p s m meth c cc nL ret own) (hin : ∀ w ∈ u_ws C T N, w ∈ gTs) (ty0 : Nat → FieldType) (hty : ∀ k, k < N → parseFieldDescriptor (T k).2.2.1 = some (ty0 k)) (hnm : ∀ a, a < N → ∀ b, b < N → a ≠ b → (T a).2.1 ≠ (T b).2.1)
    (hT : Tw X ow t ws H) (hS : va_S A s.heap H locs) (hA : A a) (q0 : Nat) {fs : List Value} (he : ws[q0]? = some (a, .inr (ci, fs))) (hc : vwCl[ci]? = some (C, T, N)) (k : Nat) (hk : k < N) (hlink : Cond.fieldLink own index ref (T k).2.1 (T k).2.2.1 ∈ gTs) (href : (T k).1 = ref) (hfin : (T k).2.2.2 = false) {ty : FieldType} {v : Value} (hd : parseFieldDescriptor (T k).2.2.1 = some ty) (hn : narrow ty v = v) (hfit : fits ty v = true) (hl : k < fs.length)
    (hdg : decode cc pc = .ok (.putfield index, 3)) (kk : ∀ (H1 : Heap) (locs1 : List Loc), (∀ q : Nat, q ≠ a → H1[q]? = H[q]?) → Tw X ow t (ws.set q0 (a, .inr (ci, fs.set k v))) H1 → va_S A s.heap H1 locs1 → W p l e R s m args below meth c H1 locs1 cells slots Q (F0 m (pc + 3) ls rest)) : W p l e R s m args below meth c H locs cells slots Q (F0 m pc ls (v :: .ref a :: rest)) := by
  obtain ⟨hx, hb, hml, hr, hlk, hown, hG⟩ := hF
  have hts := hG.hts h0 args
  have hK := hG.K h0
  have hap := va_apart (own := own) hts hin ty0 hty hnm hK hc
  obtain ⟨r, h1, cell, q1, q2, q3, q4⟩ := hT.1 q0 _ he
  have hr : r = (C, T, N) := Option.some.inj (h1.symm.trans hc)
  subst hr
  obtain ⟨hSl, hfc, kC, hkC, hkind⟩ := hK.1 ci _ hc
  obtain ⟨cf, kf, fi, f, hi, hsl⟩ := hSl k hk
  have hlay := hts _ (hin _ (u_in_lay hk))
  unfold u_lay at hlay
  rw [if_neg (by rw [hfin]; decide)] at hlay
  have hst := (u_facts hfc hkC (u_lays hts hin hk) hi).1
  have h6 := u_store hfc hkC hkind hlay hi hd hn hfit
  refine W.putK hx hb (f := f) ⟨hown, hts _ hlink, ⟨_, _, _, by rw [← href]; exact hi⟩, hst⟩ (by rw [q2]; exact h6) q1 q3 (by rw [hsl]; exact k2_hasslot (q4 k hk)) rfl rfl hdg fun H' e1 e2 e3 => ?_
  rw [hsl] at e1 ⊢
  exact kk H' _ e3 (hT.set q0 he ⟨_, hc, t_OB.to (V := updV (vp_V fs) k v) ⟨_, e1, q2, q3, t_set q4 hap hk v⟩ (fun j _ => vp_updV_set hl v j)⟩ e3) (hS.put e2 e3 hA)
/-- a field is read -/
theorem g_get {ws : va_W} {T : u_T} {C ref : String} {ci N index : Nat} {a : Nat} (h0 : Init X) (hF : FX X p s m meth c cc nL ret own) (hin : ∀ w ∈ u_ws C T N, w ∈ gTs) (hP : va_P X.D vwCl ws H) (q0 : Nat) {fs : List Value} (he : ws[q0]? = some (a, .inr (ci, fs))) (hc : vwCl[ci]? = some (C, T, N)) (k : Nat) (hk : k < N) (hlink : Cond.fieldLink own index ref (T k).2.1 (T k).2.2.1 ∈ gTs) (href : (T k).1 = ref) {v : Value} (hv : fs[k]? = some v) (hdg : decode cc pc = .ok (.getfield index, 3))
    (kk : W p l e R s m args below meth c H locs cells slots Q (F0 m (pc + 3) ls (v :: rest))) : W p l e R s m args below meth c H locs cells slots Q (F0 m pc ls (.ref a :: rest)) := by
  obtain ⟨hx, hb, hml, hr, hlk, hown, hG⟩ := hF
  exact va_get hx hb (hG.hts h0 args) hin hown (hG.K h0) hP q0 he hc k hk (hG.hts h0 args _ hlink) (fun x hx => by rw [← href]; exact hx) hv hdg kk
end
section
variable {p : Program} {l : Launch} {e : Env} {R : Room} {s : State} {m : MethodId} {args : Array Value} {below : List Frame} {meth : Method} {c : Code} {H : Heap} {locs : List Loc} {cells slots : Nat} {Q : State → Prop} {cc : ByteArray} {pc : Nat} {ls : Array Slot} {rest : List Value}
theorem g_aald {D : va_G} {cl : List vw_C} {tys : List (ClassId × FieldType)} {ws : va_W} {a : Nat} (hx : p.tables.exec = Jvm.exec) (hb : c.code = cc) (hK : va_K D cl tys s) (hP : va_P D cl ws H) (q0 t0 : Nat) {cA : ClassId} {C : String} {n' : Nat} {f : Nat → Option Nat} (ha : ws[q0]? = some (a, .inl (cA, n', .inr (.inr (.inr (.inr f)))))) (ht : tys[t0]? = some (cA, .object C)) {i : Int32} (j : Nat) (hi : i = nI j) (hj : j < n') (hn : n' < 2147483648) (hdg : decode cc pc = .ok (.aaload, 1))
    (kk : W p l e R s m args below meth c H locs cells slots Q (F0 m (pc + 1) ls (va_rf (f j) :: rest))) : W p l e R s m args below meth c H locs cells slots Q (F0 m pc ls (.int i :: .ref a :: rest)) := by
  subst hi
  refine va_aldq hx hb hK hP q0 t0 ha ht (vp_in_nI hj hn) hdg ?_
  rw [nI_clamp (Nat.lt_trans hj hn)]
  exact kk
end
theorem vp_cell_eq (cA : ClassId) (n : Nat) {f g : Nat → Int32} (h : ∀ j, j < n → f j = g j) : vp_cell cA (n, .inl f) = vp_cell cA (n, .inl g) := by
  rw [vp_cell_i, vp_cell_i]
  unfold arrV
  congr 1
  refine Array.ext (by simp) ?_
  intro j h1 h2
  simp only [Array.getElem_ofFn]
  rw [h j (by simpa using h1)]
