/-! constructors: cells of an interval of addresses; rows that tell where a new cell lies -/
def Bk (X : Cx) (lo hi : Nat) (ws : va_W) (H : Heap) : Prop := va_P X.D vwCl ws H ∧ ∀ (k : Nat) (q : Nat × va_E), ws[k]? = some q → lo ≤ q.1 ∧ q.1 < hi
theorem Bk.keep {X : Cx} {lo hi : Nat} {ws : va_W} {H H1 : Heap} {A1 : Nat → Prop} (h : Bk X lo hi ws H) (hk : ∀ q : Nat, q < H.size → ¬ A1 q → H1[q]? = H[q]?) (hA : ∀ q, lo ≤ q → q < hi → ¬ A1 q) : Bk X lo hi ws H1 :=
  ⟨h.1.kept (fun k q hq => hk q.1 ((h.1 k q hq).lt) (hA _ (h.2 k q hq).1 (h.2 k q hq).2)), h.2⟩
theorem Bk.old {X : Cx} {lo hi : Nat} {ws : va_W} {H H1 : Heap} (h : Bk X lo hi ws H) (hk : ∀ q : Nat, q < H.size → H1[q]? = H[q]?) : Bk X lo hi ws H1 := h.keep (A1 := fun _ => False) (fun q h1 _ => hk q h1) (fun _ _ _ h => h)
theorem Bk.fr1 {X : Cx} {lo hi a : Nat} {ws : va_W} {H H1 : Heap} (h : Bk X lo hi ws H) (oq : ∀ q : Nat, q ≠ a → H1[q]? = H[q]?) (ha : ¬ (lo ≤ a ∧ a < hi)) : Bk X lo hi ws H1 := h.keep (A1 := fun q => q = a) (fun q _ h1 => oq q h1) (fun q h1 h2 h3 => ha (by rw [← h3]; exact ⟨h1, h2⟩))
theorem Bk.one {X : Cx} {a : Nat} {e : va_E} {H : Heap} (h : va_at X.D vwCl (a, e) H) : Bk X a (a + 1) [(a, e)] H := by
  refine ⟨fun k q hk => ?_, fun k q hk => ?_⟩
  · match k, hk with
    | 0, hk => cases hk; exact h
    | n + 1, hk => simp at hk
  · match k, hk with
    | 0, hk => cases hk; exact ⟨Nat.le_refl _, Nat.lt_succ_self _⟩
    | n + 1, hk => simp at hk
theorem Bk.a1 {X : Cx} {lo hi a : Nat} {e : va_E} {H : Heap} (h : Bk X lo hi [(a, e)] H) : va_at X.D vwCl (a, e) H := h.1 0 _ rfl
theorem va_P_mem {D : va_G} {cl : List vw_C} {ws : va_W} {H : Heap} : va_P D cl ws H ↔ ∀ x ∈ ws, va_at D cl x H := by
  refine ⟨fun h x hx => ?_, fun h k q hk => h q (List.mem_of_getElem? hk)⟩
  obtain ⟨k, hk⟩ := List.getElem?_of_mem hx
  exact h k x hk
section
variable {X : Cx} {l : Launch} {y : MethodName} {cc : ByteArray} {nL : Nat} {ret : Option FieldType} {fr lo mc ms : Nat} {av : List Value} {Bh : Heap → Prop}
theorem Met.mkI {Qc : Array Value → State → Outcome → State → Prop} {free : Addr → Prop} (hy : plainName y.cls = true) (hn : (lg_sl av).length ≤ nL)
    (body : ∀ (p : Program) (e : Env) (s : State) (m : MethodId) (below : List Frame) (meth : Method) (c : Code) (ls : Array Slot), FX X p s m meth c cc nL ret y.cls → meth.name = y.name → Bh s.heap → lv_has ls nL (lv_args 0 av) →
      W p l e ({ frames := fr, cells := mc, slots := ms, locals := lo } : Room) s m av.toArray below meth c s.heap [] 0 0 (MQ below Qc av.toArray s mc ms free) (F0 m 0 ls [])) :
    Met l y [Cond.code y cc nL ret] ({ frames := fr, cells := mc, slots := ms, locals := lo } : Room) (va_Pc av (fun U => GC X U ∧ Bh U.heap)) Qc mc ms free := by
  refine Met.ofW (cc := cc) (maxL := nL) (ret := ret) hy rfl ?_
  intro p e s m args below meth c s₁ B hml hv
  obtain ⟨rfl, hG, hB⟩ := hv
  have hl := lv_entry av (n := nL) hn
  rw [lg_entry_eq]
  generalize (lg_sl av ++ List.replicate (nL - (lg_sl av).length) Slot.unset).toArray = ls at hl ⊢
  exact body p e s m below meth c ls ⟨B.exec, B.bytes, hml, B.returns, B.notSynchronized, findClass_of_methodNamed B.named, hG⟩ (name_of_methodNamed B.named B.method).1 hB hl
end
section
variable {X : Cx} {p : Program} {l : Launch} {e : Env} {R : Room} {s : State} {m : MethodId} {args : Array Value} {below : List Frame} {meth : Method} {c : Code} {H : Heap} {locs : List Loc} {cells slots : Nat} {Q : State → Prop}
variable {cc : ByteArray} {nL pc : Nat} {ls : Array Slot} {st rest : List Value} {own : String} {ret : Option FieldType} {A : Nat → Prop} {Bh : Heap → Prop}
variable {y : MethodName} {bytes : ByteArray} {maxL idx n fr lo mc ms : Nat} {b : Addr} {As : List Value} {Qc : Array Value → State → Outcome → State → Prop} {free : Addr → Prop}
theorem va_S.grow {A : Nat → Prop} {H0 H H1 : Heap} {locs : List Loc} (hS : va_S A H0 H locs) (hz : H.size ≤ H1.size) (o : ∀ q : Nat, q < H.size → H1[q]? = H[q]?) : va_S A H0 H1 locs :=
  ⟨Nat.le_trans hS.1 hz, fun q h1 h2 => (o q (Nat.lt_of_lt_of_le h1 hS.1)).trans (hS.2.1 q h1 h2), hS.2.2⟩
theorem g_new {C : String} {T : u_T} {N ci index : Nat} (h0 : Init X) (hF : FX X p s m meth c cc nL ret own) (hin : ∀ w ∈ u_ws C T N, w ∈ gTs) (ty : Nat → FieldType) (hty : ∀ k, k < N → parseFieldDescriptor (T k).2.2.1 = some (ty k)) (hcl : Cond.classLink own index C ∈ gTs) (hinst : Cond.instantiable C N ∈ gTs) (hini : Cond.initialized C ∈ gTs)
    (hS : va_S A s.heap H locs) (hc : vwCl[ci]? = some (C, T, N)) (fs : List Value) (hfs : ∀ j, j < N → defaultValue (ty j) = vp_V fs j) (hcells : cells + 1 ≤ R.cells) (hslots : slots + N ≤ R.slots) (hdg : decode cc pc = .ok (.new index, 3)) {z : Nat} (hz : H.size = z)
    (kk : ∀ (H1 : Heap), Bk X z (z + 1) [(z, .inr (ci, fs))] H1 → H1.size = z + 1 → (∀ q : Nat, q < H.size → H1[q]? = H[q]?) → va_S A s.heap H1 locs →
      W p l e R s m args below meth c H1 locs (cells + 1) (slots + N) Q (F0 m (pc + 3) ls (.ref z :: rest))) : W p l e R s m args below meth c H locs cells slots Q (F0 m pc ls rest) := by
  obtain ⟨hx, hb, hml, hr, hlk, hown, hG⟩ := hF
  have hts := hG.hts h0 args
  have hK := hG.K h0
  have hKn := hK.1 ci _ hc
  subst hz
  refine W.newcK hx hb hown (hts _ hcl) (hts _ hinst) (hts _ hini) rfl hdg hcells hslots hKn.2.1 rfl fun H1 kC hkC e1 z1 o1 => ?_
  exact kk H1 (.one ⟨_, hc, (u_born ty hts hin hKn hkC e1 hty).to hfs⟩) z1 o1 (hS.grow (by omega) o1)
theorem g_newI (h0 : Init X) (hF : FX X p s m meth c cc nL ret own) (hS : va_S A s.heap H locs)
    {n : Int32} (N' : Nat) (hn : ¬ n < 0) (hN : n.toNatClampNeg = N') (hbytes : N' * 4 ≤ 536870912) (hcells : cells + 1 ≤ R.cells) (hslots : slots + N' ≤ R.slots) (hdg : decode cc pc = .ok (.newarray .int, 2)) {z : Nat} (hz : H.size = z)
    (kk : ∀ (H1 : Heap), Bk X z (z + 1) [(z, .inl (X.cI, N', .inl (fun _ => 0)))] H1 → H1.size = z + 1 → (∀ q : Nat, q < H.size → H1[q]? = H[q]?) → va_S A s.heap H1 locs →
      W p l e R s m args below meth c H1 locs (cells + 1) (slots + N') Q (F0 m (pc + 2) ls (.ref z :: rest))) : W p l e R s m args below meth c H locs cells slots Q (F0 m pc ls (.int n :: rest)) := by
  obtain ⟨hx, hb, hml, hr, hlk, hown, hG⟩ := hF
  have hts := hG.hts h0 args
  have hK := hG.K h0
  subst hz
  refine va_newaK (atype := .int) hx hb (show (Cond.arrayClass (newarray.typeOf .int)).before args s = true from hts _ wa_int) rfl hdg rfl hn hN hbytes hcells hslots rfl fun H1 cA e1 z1 o1 hAr hNm => ?_
  have hcA : cA = X.cI := Option.some.inj (hNm.symm.trans (va_nm_int (hK.2 0 _ rfl).2))
  subst hcA
  exact kk H1 (.one e1) z1 o1 (hS.grow (by omega) o1)
theorem g_newB (h0 : Init X) (hF : FX X p s m meth c cc nL ret own) (hS : va_S A s.heap H locs)
    {n : Int32} (N' : Nat) (hn : ¬ n < 0) (hN : n.toNatClampNeg = N') (hbytes : N' * 1 ≤ 536870912) (hcells : cells + 1 ≤ R.cells) (hslots : slots + N' ≤ R.slots) (hdg : decode cc pc = .ok (.newarray .byte, 2)) {z : Nat} (hz : H.size = z)
    (kk : ∀ (H1 : Heap), Bk X z (z + 1) [(z, .inl (X.cB, N', .inl (fun _ => 0)))] H1 → H1.size = z + 1 → (∀ q : Nat, q < H.size → H1[q]? = H[q]?) → va_S A s.heap H1 locs →
      W p l e R s m args below meth c H1 locs (cells + 1) (slots + N') Q (F0 m (pc + 2) ls (.ref z :: rest))) : W p l e R s m args below meth c H locs cells slots Q (F0 m pc ls (.int n :: rest)) := by
  obtain ⟨hx, hb, hml, hr, hlk, hown, hG⟩ := hF
  have hts := hG.hts h0 args
  have hK := hG.K h0
  subst hz
  refine va_newaK (atype := .byte) hx hb (show (Cond.arrayClass (newarray.typeOf .byte)).before args s = true from hts _ wa_byte) rfl hdg rfl hn hN hbytes hcells hslots rfl fun H1 cA e1 z1 o1 hAr hNm => ?_
  have hcA : cA = X.cB := Option.some.inj (hNm.symm.trans (va_nm_byte (hK.2 1 _ rfl).2))
  subst hcA
  exact kk H1 (.one e1) z1 o1 (hS.grow (by omega) o1)
theorem aoS : Cond.arrayOver (.object RX5) ∈ lw_tbl := tmem 207 (by decide +kernel)
theorem g_newq (h0 : Init X) (hF : FX X p s m meth c cc nL ret own) (hS : va_S A s.heap H locs) {index : Nat} (hcl : Cond.classLink own index RX5 ∈ gTs)
    {n : Int32} (N' : Nat) (hn : ¬ n < 0) (hN : n.toNatClampNeg = N') (hbytes : N' * 4 ≤ 536870912) (hcells : cells + 1 ≤ R.cells) (hslots : slots + N' ≤ R.slots) (hdg : decode cc pc = .ok (.anewarray index, 3)) {z : Nat} (hz : H.size = z)
    (kk : ∀ (H1 : Heap), Bk X z (z + 1) [(z, .inl (X.cS, N', .inr (.inr (.inr (.inr (fun _ => none))))))] H1 → H1.size = z + 1 → (∀ q : Nat, q < H.size → H1[q]? = H[q]?) → va_S A s.heap H1 locs →
      W p l e R s m args below meth c H1 locs (cells + 1) (slots + N') Q (F0 m (pc + 3) ls (.ref z :: rest))) : W p l e R s m args below meth c H locs cells slots Q (F0 m pc ls (.int n :: rest)) := by
  obtain ⟨hx, hb, hml, hr, hlk, hown, hG⟩ := hF
  have hts := hG.hts h0 args
  have hK := hG.K h0
  have hover : va_AO RX5 s := va_AO.moved hG.1.alike (va_AO.of (h0.2.1 _ aoS))
  subst hz
  subst hN
  refine W.anew hx hb hown (hts _ hcl) (va_AO.use hover) rfl hdg rfl hn hbytes hcells hslots fun cA kA comp f1 f2 f3 f4 => ?_
  have hcA : cA = X.cS := Option.some.inj (f1.symm.trans (va_nmO (hK.2 2 _ rfl).2 rfl))
  subst hcA
  refine kk _ (.one ?_) (by rw [Array.size_push]) (fun q hq => by rw [Array.getElem?_push, if_neg (Nat.ne_of_lt hq)]) (hS.grow (by rw [Array.size_push]; omega) (fun q hq => by rw [Array.getElem?_push, if_neg (Nat.ne_of_lt hq)]))
  show (H.push _)[H.size]? = some (vp_cell _ _)
  rw [vp_cell_q, Array.getElem?_push_size]
  exact congrArg some (arrV_new _ _ _)
/-- a final field, in the constructor -/
theorem g_putF {a : Nat} {T : u_T} {C ref : String} {ci N index : Nat} (h0 : Init X) (hF : FX X p s m meth c cc nL ret own) (hnm0 : meth.name = "<init>") (hin : ∀ w ∈ u_ws C T N, w ∈ gTs) (ty0 : Nat → FieldType) (hty : ∀ k, k < N → parseFieldDescriptor (T k).2.2.1 = some (ty0 k)) (hnm : ∀ a, a < N → ∀ b, b < N → a ≠ b → (T a).2.1 ≠ (T b).2.1)
    {fs : List Value} (hT : Bk X a (a + 1) [(a, .inr (ci, fs))] H) (hS : va_S A s.heap H locs) (hA : A a) (hc : vwCl[ci]? = some (C, T, N)) (k : Nat) (hk : k < N) (hlink : Cond.fieldLink own index ref (T k).2.1 (T k).2.2.1 ∈ gTs) (href : (T k).1 = ref) (hfin : (T k).2.2.2 = true) (hdecl : (T k).1 = own) {ty : FieldType} {v : Value} (hd : parseFieldDescriptor (T k).2.2.1 = some ty) (hn : narrow ty v = v) (hfit : fits ty v = true) (hl : k < fs.length)
    (hdg : decode cc pc = .ok (.putfield index, 3)) (kk : ∀ (H1 : Heap) (locs1 : List Loc), Bk X a (a + 1) [(a, .inr (ci, fs.set k v))] H1 → H1.size = H.size → (∀ q : Nat, q ≠ a → H1[q]? = H[q]?) → va_S A s.heap H1 locs1 → W p l e R s m args below meth c H1 locs1 cells slots Q (F0 m (pc + 3) ls rest)) : W p l e R s m args below meth c H locs cells slots Q (F0 m pc ls (v :: .ref a :: rest)) := by
  obtain ⟨hx, hb, hml, hr, hlk, hown, hG⟩ := hF
  have hts := hG.hts h0 args
  have hK := hG.K h0
  have hap := va_apart (own := own) hts hin ty0 hty hnm hK hc
  obtain ⟨r, h1, cell, q1, q2, q3, q4⟩ := hT.a1
  have hr : r = (C, T, N) := Option.some.inj (h1.symm.trans hc)
  subst hr
  obtain ⟨hSl, hfc, kC, hkC, hkind⟩ := hK.1 ci _ hc
  obtain ⟨cf, kf, fi, f, hi, hsl⟩ := hSl k hk
  have hlay := hts _ (hin _ (u_in_lay hk))
  unfold u_lay at hlay
  rw [if_pos hfin] at hlay
  have hst := (u_facts hfc hkC (u_lays hts hin hk) hi).1
  have hcf : m.cls = cf := by
    obtain ⟨_, _, c', _, _, _, -, -, hf', -, -, -, hown2, -⟩ := Cond.laysFinal_spec hlay
    have e1 : c' = cf := by have := hi.symm.trans hf'; simp at this; exact this.1.symm
    rw [hdecl] at hown2
    rw [← e1]; exact Option.some.inj (hown.symm.trans hown2)
  have h6 := u_fits hfc hkC hkind (Or.inr hlay) hi hd hn hfit
  refine W.putFinK hx hb hown (hts _ hlink) (by rw [← href]; exact hi) hst hcf hnm0 (by rw [q2]; exact h6) q1 q3 (by rw [hsl]; exact k2_hasslot (q4 k hk)) rfl rfl hdg fun H' e1 e2 e3 => ?_
  rw [hsl] at e1 ⊢
  exact kk H' _ (.one ⟨_, hc, t_OB.to (V := updV (vp_V fs) k v) ⟨_, e1, q2, q3, t_set q4 hap hk v⟩ (fun j _ => vp_updV_set hl v j)⟩) e2 e3 (hS.put e2 e3 hA)
/-- another field -/
theorem g_putB {a : Nat} {T : u_T} {C ref : String} {ci N index : Nat} (h0 : Init X) (hF : FX X p s m meth c cc nL ret own) (hin : ∀ w ∈ u_ws C T N, w ∈ gTs) (ty0 : Nat → FieldType) (hty : ∀ k, k < N → parseFieldDescriptor (T k).2.2.1 = some (ty0 k)) (hnm : ∀ a, a < N → ∀ b, b < N → a ≠ b → (T a).2.1 ≠ (T b).2.1)
    {fs : List Value} (hT : Bk X a (a + 1) [(a, .inr (ci, fs))] H) (hS : va_S A s.heap H locs) (hA : A a) (hc : vwCl[ci]? = some (C, T, N)) (k : Nat) (hk : k < N) (hlink : Cond.fieldLink own index ref (T k).2.1 (T k).2.2.1 ∈ gTs) (href : (T k).1 = ref) (hfin : (T k).2.2.2 = false) {ty : FieldType} {v : Value} (hd : parseFieldDescriptor (T k).2.2.1 = some ty) (hn : narrow ty v = v) (hfit : fits ty v = true) (hl : k < fs.length)
    (hdg : decode cc pc = .ok (.putfield index, 3)) (kk : ∀ (H1 : Heap) (locs1 : List Loc), Bk X a (a + 1) [(a, .inr (ci, fs.set k v))] H1 → H1.size = H.size → (∀ q : Nat, q ≠ a → H1[q]? = H[q]?) → va_S A s.heap H1 locs1 → W p l e R s m args below meth c H1 locs1 cells slots Q (F0 m (pc + 3) ls rest)) : W p l e R s m args below meth c H locs cells slots Q (F0 m pc ls (v :: .ref a :: rest)) := by
  obtain ⟨hx, hb, hml, hr, hlk, hown, hG⟩ := hF
  have hts := hG.hts h0 args
  have hK := hG.K h0
  have hap := va_apart (own := own) hts hin ty0 hty hnm hK hc
  obtain ⟨r, h1, cell, q1, q2, q3, q4⟩ := hT.a1
  have hr : r = (C, T, N) := Option.some.inj (h1.symm.trans hc)
  subst hr
  obtain ⟨hSl, hfc, kC, hkC, hkind⟩ := hK.1 ci _ hc
  obtain ⟨cf, kf, fi, f, hi, hsl⟩ := hSl k hk
  have hlay := hts _ (hin _ (u_in_lay hk))
  unfold u_lay at hlay
  rw [if_neg (by rw [hfin]; decide)] at hlay
  have hst := (u_facts hfc hkC (u_lays hts hin hk) hi).1
  have h6 := u_store hfc hkC hkind hlay hi hd hn hfit
  refine W.putK hx hb (f := f) ⟨hown, hts _ hlink, ⟨_, _, _, by rw [← href]; exact hi⟩, hst⟩ (by rw [q2]; exact h6) q1 q3 (by rw [hsl]; exact k2_hasslot (q4 k hk)) rfl rfl hdg fun H' e1 e2 e3 => ?_
  rw [hsl] at e1 ⊢
  exact kk H' _ (.one ⟨_, hc, t_OB.to (V := updV (vp_V fs) k v) ⟨_, e1, q2, q3, t_set q4 hap hk v⟩ (fun j _ => vp_updV_set hl v j)⟩) e2 e3 (hS.put e2 e3 hA)
theorem grI (h0 : Init X) (hF : FX X p s m meth c cc nL ret own) (hM : Met l y [Cond.code y bytes maxL none] ({ frames := fr, cells := mc, slots := ms, locals := lo } : Room) (va_Pc (.ref b :: As) (fun U => GC X U ∧ Bh U.heap)) Qc mc ms free)
    (hw1 : Cond.methodLink own idx y ∈ gTs) (hw2 : Cond.instanceMethod y ∈ gTs) (hw4 : Cond.initialized y.cls ∈ gTs) (hw5 : Cond.code y bytes maxL none ∈ gTs) (hyn : y.name = "<init>")
    (hy : y.cls ≠ "java/lang/invoke/MethodHandle" ∧ y.cls ≠ "java/lang/invoke/VarHandle" ∧ (parseMethodDescriptor y.desc).map (fun d => d.parameters.length) = some n) (hn : As.length = n) (hR : fr + 1 ≤ R.frames ∧ 8 + (maxL + 11) + lo ≤ R.locals)
    (hB : Bh H) (hS : va_S A s.heap H locs) (hA : ∀ q, q < X.z → ¬ A q) (hcs : cells + mc ≤ R.cells ∧ slots + ms ≤ R.slots)
    (hls : ls.size = nL) (hst : st = As.reverse ++ .ref b :: rest) (hW : (rest.map fun v => v.category).sum ≤ 8) (hdg : decode cc pc = .ok (.invokespecial idx, 3)) :
    va_Run p l e R s m args below meth c H locs cells slots mc ms (F0 m pc ls st) rest (Qc (Value.ref b :: As).toArray) free := by
  obtain ⟨hx, hb, hml, hr, hlk, hown, hG⟩ := hF
  have hts := hG.hts h0 args
  exact va_runI ⟨hx, hb, hml, hown, hts⟩ hM ⟨gB h0 hG hw1 hw4 hw5 hy hR, hyn, hts _ hw2⟩ ⟨fun a U g mk q => q, fun U hU hW => ⟨rfl, GC.move hG hS hA hU hW, by rw [hU]; exact hB⟩⟩ rfl hn hls hst (lv_room hW) hdg hcs
theorem grIN {host : String} (h0 : Init X) (hF : FX X p s m meth c cc nL ret own) (hM : Met l y [Cond.code y bytes maxL none] ({ frames := fr, cells := mc, slots := ms, locals := lo } : Room) (va_Pc (.ref b :: As) (fun U => GC X U ∧ Bh U.heap)) Qc mc ms free)
    (hw1 : Cond.methodLinkNest own idx y host ∈ lw_tbl) (hw2 : Cond.instanceMethod y ∈ gTs) (hw4 : Cond.initialized y.cls ∈ gTs) (hw5 : Cond.code y bytes maxL none ∈ gTs) (hyn : y.name = "<init>")
    (hy : y.cls ≠ "java/lang/invoke/MethodHandle" ∧ y.cls ≠ "java/lang/invoke/VarHandle" ∧ (parseMethodDescriptor y.desc).map (fun d => d.parameters.length) = some n) (hn : As.length = n) (hR : fr + 1 ≤ R.frames ∧ 8 + (maxL + 11) + lo ≤ R.locals)
    (hB : Bh H) (hS : va_S A s.heap H locs) (hA : ∀ q, q < X.z → ¬ A q) (hcs : cells + mc ≤ R.cells ∧ slots + ms ≤ R.slots)
    (hls : ls.size = nL) (hst : st = As.reverse ++ .ref b :: rest) (hW : (rest.map fun v => v.category).sum ≤ 8) (hdg : decode cc pc = .ok (.invokespecial idx, 3)) :
    va_Run p l e R s m args below meth c H locs cells slots mc ms (F0 m pc ls st) rest (Qc (Value.ref b :: As).toArray) free := by
  obtain ⟨hx, hb, hml, hr, hlk, hown, hG⟩ := hF
  have hts := hG.hts h0 args
  refine va_runIN (own := own) (host := host) (n := n) ⟨hx, hb, hml, hown, hts⟩ hM ⟨⟨⟨rfl, rfl, hR.1, hR.2, ?_, List.mem_cons_self⟩, hts _ hw5, hts _ hw4, ⟨hy.1, hy.2.1⟩, fun sig h => ?_, hG.nestM h0 args hw1⟩, hyn, hts _ hw2⟩ ⟨fun a U g mk q => q, fun U hU hW => ⟨rfl, GC.move hG hS hA hU hW, by rw [hU]; exact hB⟩⟩ rfl hn hls hst (lv_room hW) hdg hcs
  · intro w hw a' U hW
    rw [List.mem_singleton.mp hw]
    exact word_at (State.WarmedH.trans hG.1 hW) (good_of_word (List.mem_filter.mp hw5).2) (h0.2.1 _ (List.mem_filter.mp hw5).1)
  · have h2 := hy.2.2
    rw [h] at h2
    exact (Option.some.inj h2).symm
/-- Object.<init> -/
theorem g_obj (h0 : Init X) (hF : FX X p s m meth c cc nL ret own) (hw1 : Cond.methodLink own idx ⟨"java/lang/Object", "<init>", "()V"⟩ ∈ gTs) (hR : 1 ≤ R.frames ∧ 20 ≤ R.locals) (hls : ls.size = nL) (hW : (rest.map fun v => v.category).sum ≤ 8) {a : Nat} (hdg : decode cc pc = .ok (.invokespecial idx, 3))
    (kk : W p l e R s m args below meth c H locs cells slots Q (F0 m (pc + 3) ls rest)) : W p l e R s m args below meth c H locs cells slots Q (F0 m pc ls (.ref a :: rest)) := by
  obtain ⟨hx, hb, hml, hr, hlk, hown, hG⟩ := hF
  have hts := hG.hts h0 args
  refine W.objInit hx hb hown (hts _ hw1) (hts _ wo_java_lang_Object__init____V) (hts _ wc_java_lang_Object__init____V) rfl (by rw [hml]; exact hls) rfl hdg hR.1 (Nat.le_trans ?_ hR.2) kk
  have := lv_room (m := m) (pc := pc) (ls := ls) (rest := .ref a :: rest) (st := rest) hW
  omega
end
theorem Bk.app {X : Cx} {lo hi lo2 hi2 : Nat} {ws ws2 : va_W} {H : Heap} (h : Bk X lo hi ws H) (h2 : Bk X lo2 hi2 ws2 H) (h3 : lo ≤ lo2 ∧ hi ≤ hi2) : Bk X lo hi2 (ws ++ ws2) H := by
  refine ⟨va_P_mem.mpr (fun x hx => ?_), fun k q hq => ?_⟩
  · rcases List.mem_append.mp hx with h9 | h9
    · exact va_P_mem.mp h.1 x h9
    · exact va_P_mem.mp h2.1 x h9
  · rcases List.mem_append.mp (List.mem_of_getElem? hq) with h9 | h9
    · obtain ⟨j, hj⟩ := List.getElem?_of_mem h9
      have := h.2 j q hj
      omega
    · obtain ⟨j, hj⟩ := List.getElem?_of_mem h9
      have := h2.2 j q hj
      omega
theorem Bk.wk {X : Cx} {lo hi lo2 hi2 : Nat} {ws : va_W} {H : Heap} (h : Bk X lo hi ws H) (h3 : lo2 ≤ lo ∧ hi ≤ hi2) : Bk X lo2 hi2 ws H := ⟨h.1, fun k q hk => by have := h.2 k q hk; omega⟩
/-- a sky's cells, one behind the other, as the constructors lay them -/
def pmS : List Nat := [0, 1, 7, 17, 2, 3, 4, 5, 6, 8, 9, 10, 11, 12, 13, 14, 15, 16, 18, 19, 20, 21, 22]
def fS (a : Nat) : Nat → Nat := fun i => a + pmS.getD i 0
abbrev k00 : Sk := (fun _ _ => 0, fun _ => 0)
section
variable {X : Cx} {p : Program} {l : Launch} {e : Env} {R : Room} {s : State} {m : MethodId} {args : Array Value} {below : List Frame} {meth : Method} {c : Code} {H : Heap} {locs : List Loc} {cells slots : Nat} {Q : State → Prop}
variable {cc : ByteArray} {nL pc : Nat} {ls : Array Slot} {st rest : List Value} {own : String} {ret : Option FieldType} {A : Nat → Prop}
theorem g_astq (h0 : Init X) (hF : FX X p s m meth c cc nL ret own) {a n' v j : Nat} {vs : List Value} {f : Nat → Option Nat} (hT : Bk X a (a + 1) [(a, .inl (X.cS, n', .inr (.inr (.inr (.inr f)))))] H) (hv : va_at X.D vwCl (v, .inr (4, vs)) H) (hS : va_S A s.heap H locs) (hA : A a) (hj : j < n') (hn : n' < 2147483648) (hdg : decode cc pc = .ok (.aastore, 1))
    (kk : ∀ (H1 : Heap) (locs1 : List Loc), Bk X a (a + 1) [(a, .inl (X.cS, n', .inr (.inr (.inr (.inr (va_up f j (some v)))))))] H1 → H1.size = H.size → (∀ q : Nat, q ≠ a → H1[q]? = H[q]?) → va_S A s.heap H1 locs1 → W p l e R s m args below meth c H1 locs1 cells slots Q (F0 m (pc + 1) ls rest)) : W p l e R s m args below meth c H locs cells slots Q (F0 m pc ls (.ref v :: .int (nI j) :: .ref a :: rest)) := by
  obtain ⟨hx, hb, hml, hr, hlk, hown, hG⟩ := hF
  have hK := hG.K h0
  have ec : (nI j).toNatClampNeg = j := nI_clamp (Nat.lt_trans hj hn)
  obtain ⟨r', hr', cellV, g1, g2, g3, -⟩ := hv
  have hcls := (hK.1 4 _ rfl).2
  obtain ⟨kA, comp, k1, k2, k3, -⟩ := (hK.2 2 _ rfl).2
  have hcomp : comp = X.D.1 4 := Option.some.inj (k3.symm.trans hcls.1)
  subst hcomp
  obtain ⟨kC, hkC, -⟩ := hcls.2
  refine W.aast hx hb hT.a1 (fun q h => by cases h) (fun h => by cases h) k1 k2 rfl hkC ⟨nI_pos (by omega), by show _ < (arrV _ _ _).slots.size; rw [arrV_size, ec]; exact hj⟩ g1 (fun q h => by rw [g3] at h; cases h) (by rw [g2]; exact hkC) (by rw [g2]; exact va_assign hcls) rfl rfl hdg fun H1 e z oq => ?_
  refine kk H1 _ (.one ?_) z oq (hS.put z oq hA)
  show H1[a]? = some (vp_cell _ _)
  rw [e, vp_cell_q, vp_cell_q, arrV_store, ec]
  congr 2
  funext q
  by_cases hq : q = j
  · subst hq
    simp [updV, va_up, va_rf]
  · simp [updV, va_up, hq]
end

abbrev ceX6 (X : Cx) (a : Nat) : va_W := [(a, .inr (5, [.int 0, .ref (a + 1), .ref (a + 2), .ref (a + 3), .ref (a + 4), .ref (a + 5)])), (a + 1, .inl (X.cI, 8, .inl (fun _ => 0))), (a + 2, .inl (X.cI, 8, .inl (fun _ => 0))), (a + 3, .inl (X.cI, 8, .inl (fun _ => 0))), (a + 4, .inl (X.cI, 8, .inl (fun _ => 0))), (a + 5, .inl (X.cI, 4, .inl (fun _ => 0)))]
set_option maxHeartbeats 4000000 in
set_option maxRecDepth 100000 in
theorem m_X6_init {X : Cx} {l : Launch} (h0 : Init X) {a : Nat} (ha : X.z ≤ a)  : MM X l yX6_init cX6_init 1 none 1 20 5 36 [.ref a] (fun H => H.size = a + 1 ∧ Bk X a (a + 1) [(a, .inr (5, [.int 0, .null, .null, .null, .null, .null]))] H) (fun v H => v = none ∧ H.size = a + 6 ∧ Bk X a (a + 6) (ceX6 X a) H) (fun q => a ≤ q) := by
  refine Met.mkI (Bh := (fun H => H.size = a + 1 ∧ Bk X a (a + 1) [(a, .inr (5, [.int 0, .null, .null, .null, .null, .null]))] H)) (by decide) (Nat.le_of_ble_eq_true rfl) ?_
  intro p e s m below meth c ls hF hnm0 hB hl
  obtain ⟨hz, hT⟩ := hB
  have hl : lv_has ls 1 [(0, .ref a)] := hl
  obtain ⟨hx, hb, hml, hr, hlk, hown, hG⟩ := id hF
  have hK := hG.K h0
  have hAo : ∀ q, q < X.z → ¬ (fun q => a ≤ q) q := fun q h1 (h2 : a ≤ q) => by omega
  have hS : va_S (fun q => a ≤ q) s.heap s.heap [] := va_S.rf
  refine lv_aload_n hx hb dX6_init_0 rfl (lv_at hl 0 rfl) ?_
  refine g_obj h0 hF wm_X6_3 ⟨Nat.le_of_ble_eq_true rfl, Nat.le_of_ble_eq_true rfl⟩ hl.1 (Nat.le_of_ble_eq_true rfl) dX6_init_1 ?_
  refine lv_aload_n hx hb dX6_init_4 rfl (lv_at hl 0 rfl) ?_
  refine lv_bipush (v := 8) hx hb dX6_init_5 (by decide) ?_
  refine g_newI h0 hF hS 8 (by decide) (by decide) (Nat.le_of_ble_eq_true rfl) (Nat.le_of_ble_eq_true rfl) (Nat.le_of_ble_eq_true rfl) dX6_init_7 hz (fun H h1_7 hz1 ho hS => ?_)
  have hT := hT.old ho
  clear ho hz; have hz : H.size = a + 2 := by omega
  clear hz1
  refine g_putF h0 hF hnm0 inX6 tyX6 tyX6_ok nmX6 hT hS (by show a ≤ _; omega) (C := RX6) (T := TX6) (N := 6) rfl 1 (by decide) wf_X6_9 rfl rfl rfl (tyX6_ok 1 (by decide)) rfl rfl (Nat.le_of_ble_eq_true rfl) dX6_init_9 (fun H locs hT hz1 oq hS => ?_)
  have h1_7 := h1_7.fr1 oq (by omega)
  have hT : Bk X a (a + 1) [(a, .inr (5, [.int 0, .ref (a + 1), .null, .null, .null, .null]))] H := hT
  have hz := hz1.trans hz; clear hz1 oq
  refine lv_aload_n hx hb dX6_init_12 rfl (lv_at hl 0 rfl) ?_
  refine lv_bipush (v := 8) hx hb dX6_init_13 (by decide) ?_
  refine g_newI h0 hF hS 8 (by decide) (by decide) (Nat.le_of_ble_eq_true rfl) (Nat.le_of_ble_eq_true rfl) (Nat.le_of_ble_eq_true rfl) dX6_init_15 hz (fun H h2_15 hz1 ho hS => ?_)
  have hT := hT.old ho
  have h1_7 := h1_7.old ho
  clear ho hz; have hz : H.size = a + 3 := by omega
  clear hz1
  refine g_putF h0 hF hnm0 inX6 tyX6 tyX6_ok nmX6 hT hS (by show a ≤ _; omega) (C := RX6) (T := TX6) (N := 6) rfl 2 (by decide) wf_X6_15 rfl rfl rfl (tyX6_ok 2 (by decide)) rfl rfl (Nat.le_of_ble_eq_true rfl) dX6_init_17 (fun H locs hT hz1 oq hS => ?_)
  have h1_7 := h1_7.fr1 oq (by omega)
  have h2_15 := h2_15.fr1 oq (by omega)
  have hT : Bk X a (a + 1) [(a, .inr (5, [.int 0, .ref (a + 1), .ref (a + 2), .null, .null, .null]))] H := hT
  have hz := hz1.trans hz; clear hz1 oq
  refine lv_aload_n hx hb dX6_init_20 rfl (lv_at hl 0 rfl) ?_
  refine lv_bipush (v := 8) hx hb dX6_init_21 (by decide) ?_
  refine g_newI h0 hF hS 8 (by decide) (by decide) (Nat.le_of_ble_eq_true rfl) (Nat.le_of_ble_eq_true rfl) (Nat.le_of_ble_eq_true rfl) dX6_init_23 hz (fun H h3_23 hz1 ho hS => ?_)
  have hT := hT.old ho
  have h1_7 := h1_7.old ho
  have h2_15 := h2_15.old ho
  clear ho hz; have hz : H.size = a + 4 := by omega
  clear hz1
  refine g_putF h0 hF hnm0 inX6 tyX6 tyX6_ok nmX6 hT hS (by show a ≤ _; omega) (C := RX6) (T := TX6) (N := 6) rfl 3 (by decide) wf_X6_18 rfl rfl rfl (tyX6_ok 3 (by decide)) rfl rfl (Nat.le_of_ble_eq_true rfl) dX6_init_25 (fun H locs hT hz1 oq hS => ?_)
  have h1_7 := h1_7.fr1 oq (by omega)
  have h2_15 := h2_15.fr1 oq (by omega)
  have h3_23 := h3_23.fr1 oq (by omega)
  have hT : Bk X a (a + 1) [(a, .inr (5, [.int 0, .ref (a + 1), .ref (a + 2), .ref (a + 3), .null, .null]))] H := hT
  have hz := hz1.trans hz; clear hz1 oq
  refine lv_aload_n hx hb dX6_init_28 rfl (lv_at hl 0 rfl) ?_
  refine lv_bipush (v := 8) hx hb dX6_init_29 (by decide) ?_
  refine g_newI h0 hF hS 8 (by decide) (by decide) (Nat.le_of_ble_eq_true rfl) (Nat.le_of_ble_eq_true rfl) (Nat.le_of_ble_eq_true rfl) dX6_init_31 hz (fun H h4_31 hz1 ho hS => ?_)
  have hT := hT.old ho
  have h1_7 := h1_7.old ho
  have h2_15 := h2_15.old ho
  have h3_23 := h3_23.old ho
  clear ho hz; have hz : H.size = a + 5 := by omega
  clear hz1
  refine g_putF h0 hF hnm0 inX6 tyX6 tyX6_ok nmX6 hT hS (by show a ≤ _; omega) (C := RX6) (T := TX6) (N := 6) rfl 4 (by decide) wf_X6_21 rfl rfl rfl (tyX6_ok 4 (by decide)) rfl rfl (Nat.le_of_ble_eq_true rfl) dX6_init_33 (fun H locs hT hz1 oq hS => ?_)
  have h1_7 := h1_7.fr1 oq (by omega)
  have h2_15 := h2_15.fr1 oq (by omega)
  have h3_23 := h3_23.fr1 oq (by omega)
  have h4_31 := h4_31.fr1 oq (by omega)
  have hT : Bk X a (a + 1) [(a, .inr (5, [.int 0, .ref (a + 1), .ref (a + 2), .ref (a + 3), .ref (a + 4), .null]))] H := hT
  have hz := hz1.trans hz; clear hz1 oq
  refine lv_aload_n hx hb dX6_init_36 rfl (lv_at hl 0 rfl) ?_
  refine lv_iconst (v := 4) hx hb dX6_init_37 (by decide) ?_
  refine g_newI h0 hF hS 4 (by decide) (by decide) (Nat.le_of_ble_eq_true rfl) (Nat.le_of_ble_eq_true rfl) (Nat.le_of_ble_eq_true rfl) dX6_init_38 hz (fun H h5_38 hz1 ho hS => ?_)
  have hT := hT.old ho
  have h1_7 := h1_7.old ho
  have h2_15 := h2_15.old ho
  have h3_23 := h3_23.old ho
  have h4_31 := h4_31.old ho
  clear ho hz; have hz : H.size = a + 6 := by omega
  clear hz1
  refine g_putF h0 hF hnm0 inX6 tyX6 tyX6_ok nmX6 hT hS (by show a ≤ _; omega) (C := RX6) (T := TX6) (N := 6) rfl 5 (by decide) wf_X6_24 rfl rfl rfl (tyX6_ok 5 (by decide)) rfl rfl (Nat.le_of_ble_eq_true rfl) dX6_init_40 (fun H locs hT hz1 oq hS => ?_)
  have h1_7 := h1_7.fr1 oq (by omega)
  have h2_15 := h2_15.fr1 oq (by omega)
  have h3_23 := h3_23.fr1 oq (by omega)
  have h4_31 := h4_31.fr1 oq (by omega)
  have h5_38 := h5_38.fr1 oq (by omega)
  have hT : Bk X a (a + 1) [(a, .inr (5, [.int 0, .ref (a + 1), .ref (a + 2), .ref (a + 3), .ref (a + 4), .ref (a + 5)]))] H := hT
  have hz := hz1.trans hz; clear hz1 oq
  exact mm_vret hF hS dX6_init_43 ⟨rfl, hz, (((((hT.app h1_7 (by omega)).app h2_15 (by omega)).app h3_23 (by omega)).app h4_31 (by omega)).app h5_38 (by omega))⟩

abbrev ceX4 (X : Cx) (a : Nat) : va_W := [(a, .inr (3, [.int 0, .ref (a + 1), .ref (a + 2), .ref (a + 3), .ref (a + 4), .ref (a + 5), .ref (a + 6), .ref (a + 7), .ref (a + 8), .ref (a + 9)])), (a + 1, .inl (X.cI, 5, .inl (fun _ => 0))), (a + 2, .inl (X.cI, 5, .inl (fun _ => 0))), (a + 3, .inl (X.cI, 5, .inl (fun _ => 0))), (a + 4, .inl (X.cI, 5, .inl (fun _ => 0))), (a + 5, .inl (X.cI, 5, .inl (fun _ => 0))), (a + 6, .inl (X.cI, 5, .inl (fun _ => 0))), (a + 7, .inl (X.cI, 5, .inl (fun _ => 0))), (a + 8, .inl (X.cI, 5, .inl (fun _ => 0))), (a + 9, .inl (X.cI, 5, .inl (fun _ => 0)))]
set_option maxHeartbeats 4000000 in
set_option maxRecDepth 100000 in
theorem m_X4_init {X : Cx} {l : Launch} (h0 : Init X) {a : Nat} (ha : X.z ≤ a)  : MM X l yX4_init cX4_init 1 none 1 20 9 45 [.ref a] (fun H => H.size = a + 1 ∧ Bk X a (a + 1) [(a, .inr (3, [.int 0, .null, .null, .null, .null, .null, .null, .null, .null, .null]))] H) (fun v H => v = none ∧ H.size = a + 10 ∧ Bk X a (a + 10) (ceX4 X a) H) (fun q => a ≤ q) := by
  refine Met.mkI (Bh := (fun H => H.size = a + 1 ∧ Bk X a (a + 1) [(a, .inr (3, [.int 0, .null, .null, .null, .null, .null, .null, .null, .null, .null]))] H)) (by decide) (Nat.le_of_ble_eq_true rfl) ?_
  intro p e s m below meth c ls hF hnm0 hB hl
  obtain ⟨hz, hT⟩ := hB
  have hl : lv_has ls 1 [(0, .ref a)] := hl
  obtain ⟨hx, hb, hml, hr, hlk, hown, hG⟩ := id hF
  have hK := hG.K h0
  have hAo : ∀ q, q < X.z → ¬ (fun q => a ≤ q) q := fun q h1 (h2 : a ≤ q) => by omega
  have hS : va_S (fun q => a ≤ q) s.heap s.heap [] := va_S.rf
  refine lv_aload_n hx hb dX4_init_0 rfl (lv_at hl 0 rfl) ?_
  refine g_obj h0 hF wm_X4_3 ⟨Nat.le_of_ble_eq_true rfl, Nat.le_of_ble_eq_true rfl⟩ hl.1 (Nat.le_of_ble_eq_true rfl) dX4_init_1 ?_
  refine lv_aload_n hx hb dX4_init_4 rfl (lv_at hl 0 rfl) ?_
  refine lv_iconst (v := 5) hx hb dX4_init_5 (by decide) ?_
  refine g_newI h0 hF hS 5 (by decide) (by decide) (Nat.le_of_ble_eq_true rfl) (Nat.le_of_ble_eq_true rfl) (Nat.le_of_ble_eq_true rfl) dX4_init_6 hz (fun H h1_6 hz1 ho hS => ?_)
  have hT := hT.old ho
  clear ho hz; have hz : H.size = a + 2 := by omega
  clear hz1
  refine g_putF h0 hF hnm0 inX4 tyX4 tyX4_ok nmX4 hT hS (by show a ≤ _; omega) (C := RX4) (T := TX4) (N := 10) rfl 1 (by decide) wf_X4_9 rfl rfl rfl (tyX4_ok 1 (by decide)) rfl rfl (Nat.le_of_ble_eq_true rfl) dX4_init_8 (fun H locs hT hz1 oq hS => ?_)
  have h1_6 := h1_6.fr1 oq (by omega)
  have hT : Bk X a (a + 1) [(a, .inr (3, [.int 0, .ref (a + 1), .null, .null, .null, .null, .null, .null, .null, .null]))] H := hT
  have hz := hz1.trans hz; clear hz1 oq
  refine lv_aload_n hx hb dX4_init_11 rfl (lv_at hl 0 rfl) ?_
  refine lv_iconst (v := 5) hx hb dX4_init_12 (by decide) ?_
  refine g_newI h0 hF hS 5 (by decide) (by decide) (Nat.le_of_ble_eq_true rfl) (Nat.le_of_ble_eq_true rfl) (Nat.le_of_ble_eq_true rfl) dX4_init_13 hz (fun H h2_13 hz1 ho hS => ?_)
  have hT := hT.old ho
  have h1_6 := h1_6.old ho
  clear ho hz; have hz : H.size = a + 3 := by omega
  clear hz1
  refine g_putF h0 hF hnm0 inX4 tyX4 tyX4_ok nmX4 hT hS (by show a ≤ _; omega) (C := RX4) (T := TX4) (N := 10) rfl 2 (by decide) wf_X4_15 rfl rfl rfl (tyX4_ok 2 (by decide)) rfl rfl (Nat.le_of_ble_eq_true rfl) dX4_init_15 (fun H locs hT hz1 oq hS => ?_)
  have h1_6 := h1_6.fr1 oq (by omega)
  have h2_13 := h2_13.fr1 oq (by omega)
  have hT : Bk X a (a + 1) [(a, .inr (3, [.int 0, .ref (a + 1), .ref (a + 2), .null, .null, .null, .null, .null, .null, .null]))] H := hT
  have hz := hz1.trans hz; clear hz1 oq
  refine lv_aload_n hx hb dX4_init_18 rfl (lv_at hl 0 rfl) ?_
  refine lv_iconst (v := 5) hx hb dX4_init_19 (by decide) ?_
  refine g_newI h0 hF hS 5 (by decide) (by decide) (Nat.le_of_ble_eq_true rfl) (Nat.le_of_ble_eq_true rfl) (Nat.le_of_ble_eq_true rfl) dX4_init_20 hz (fun H h3_20 hz1 ho hS => ?_)
  have hT := hT.old ho
  have h1_6 := h1_6.old ho
  have h2_13 := h2_13.old ho
  clear ho hz; have hz : H.size = a + 4 := by omega
  clear hz1
  refine g_putF h0 hF hnm0 inX4 tyX4 tyX4_ok nmX4 hT hS (by show a ≤ _; omega) (C := RX4) (T := TX4) (N := 10) rfl 3 (by decide) wf_X4_18 rfl rfl rfl (tyX4_ok 3 (by decide)) rfl rfl (Nat.le_of_ble_eq_true rfl) dX4_init_22 (fun H locs hT hz1 oq hS => ?_)
  have h1_6 := h1_6.fr1 oq (by omega)
  have h2_13 := h2_13.fr1 oq (by omega)
  have h3_20 := h3_20.fr1 oq (by omega)
  have hT : Bk X a (a + 1) [(a, .inr (3, [.int 0, .ref (a + 1), .ref (a + 2), .ref (a + 3), .null, .null, .null, .null, .null, .null]))] H := hT
  have hz := hz1.trans hz; clear hz1 oq
  refine lv_aload_n hx hb dX4_init_25 rfl (lv_at hl 0 rfl) ?_
  refine lv_iconst (v := 5) hx hb dX4_init_26 (by decide) ?_
  refine g_newI h0 hF hS 5 (by decide) (by decide) (Nat.le_of_ble_eq_true rfl) (Nat.le_of_ble_eq_true rfl) (Nat.le_of_ble_eq_true rfl) dX4_init_27 hz (fun H h4_27 hz1 ho hS => ?_)
  have hT := hT.old ho
  have h1_6 := h1_6.old ho
  have h2_13 := h2_13.old ho
  have h3_20 := h3_20.old ho
  clear ho hz; have hz : H.size = a + 5 := by omega
  clear hz1
  refine g_putF h0 hF hnm0 inX4 tyX4 tyX4_ok nmX4 hT hS (by show a ≤ _; omega) (C := RX4) (T := TX4) (N := 10) rfl 4 (by decide) wf_X4_21 rfl rfl rfl (tyX4_ok 4 (by decide)) rfl rfl (Nat.le_of_ble_eq_true rfl) dX4_init_29 (fun H locs hT hz1 oq hS => ?_)
  have h1_6 := h1_6.fr1 oq (by omega)
  have h2_13 := h2_13.fr1 oq (by omega)
  have h3_20 := h3_20.fr1 oq (by omega)
  have h4_27 := h4_27.fr1 oq (by omega)
  have hT : Bk X a (a + 1) [(a, .inr (3, [.int 0, .ref (a + 1), .ref (a + 2), .ref (a + 3), .ref (a + 4), .null, .null, .null, .null, .null]))] H := hT
  have hz := hz1.trans hz; clear hz1 oq
  refine lv_aload_n hx hb dX4_init_32 rfl (lv_at hl 0 rfl) ?_
  refine lv_iconst (v := 5) hx hb dX4_init_33 (by decide) ?_
  refine g_newI h0 hF hS 5 (by decide) (by decide) (Nat.le_of_ble_eq_true rfl) (Nat.le_of_ble_eq_true rfl) (Nat.le_of_ble_eq_true rfl) dX4_init_34 hz (fun H h5_34 hz1 ho hS => ?_)
  have hT := hT.old ho
  have h1_6 := h1_6.old ho
  have h2_13 := h2_13.old ho
  have h3_20 := h3_20.old ho
  have h4_27 := h4_27.old ho
  clear ho hz; have hz : H.size = a + 6 := by omega
  clear hz1
  refine g_putF h0 hF hnm0 inX4 tyX4 tyX4_ok nmX4 hT hS (by show a ≤ _; omega) (C := RX4) (T := TX4) (N := 10) rfl 5 (by decide) wf_X4_24 rfl rfl rfl (tyX4_ok 5 (by decide)) rfl rfl (Nat.le_of_ble_eq_true rfl) dX4_init_36 (fun H locs hT hz1 oq hS => ?_)
  have h1_6 := h1_6.fr1 oq (by omega)
  have h2_13 := h2_13.fr1 oq (by omega)
  have h3_20 := h3_20.fr1 oq (by omega)
  have h4_27 := h4_27.fr1 oq (by omega)
  have h5_34 := h5_34.fr1 oq (by omega)
  have hT : Bk X a (a + 1) [(a, .inr (3, [.int 0, .ref (a + 1), .ref (a + 2), .ref (a + 3), .ref (a + 4), .ref (a + 5), .null, .null, .null, .null]))] H := hT
  have hz := hz1.trans hz; clear hz1 oq
  refine lv_aload_n hx hb dX4_init_39 rfl (lv_at hl 0 rfl) ?_
  refine lv_iconst (v := 5) hx hb dX4_init_40 (by decide) ?_
  refine g_newI h0 hF hS 5 (by decide) (by decide) (Nat.le_of_ble_eq_true rfl) (Nat.le_of_ble_eq_true rfl) (Nat.le_of_ble_eq_true rfl) dX4_init_41 hz (fun H h6_41 hz1 ho hS => ?_)
  have hT := hT.old ho
  have h1_6 := h1_6.old ho
  have h2_13 := h2_13.old ho
  have h3_20 := h3_20.old ho
  have h4_27 := h4_27.old ho
  have h5_34 := h5_34.old ho
  clear ho hz; have hz : H.size = a + 7 := by omega
  clear hz1
  refine g_putF h0 hF hnm0 inX4 tyX4 tyX4_ok nmX4 hT hS (by show a ≤ _; omega) (C := RX4) (T := TX4) (N := 10) rfl 6 (by decide) wf_X4_27 rfl rfl rfl (tyX4_ok 6 (by decide)) rfl rfl (Nat.le_of_ble_eq_true rfl) dX4_init_43 (fun H locs hT hz1 oq hS => ?_)
  have h1_6 := h1_6.fr1 oq (by omega)
  have h2_13 := h2_13.fr1 oq (by omega)
  have h3_20 := h3_20.fr1 oq (by omega)
  have h4_27 := h4_27.fr1 oq (by omega)
  have h5_34 := h5_34.fr1 oq (by omega)
  have h6_41 := h6_41.fr1 oq (by omega)
  have hT : Bk X a (a + 1) [(a, .inr (3, [.int 0, .ref (a + 1), .ref (a + 2), .ref (a + 3), .ref (a + 4), .ref (a + 5), .ref (a + 6), .null, .null, .null]))] H := hT
  have hz := hz1.trans hz; clear hz1 oq
  refine lv_aload_n hx hb dX4_init_46 rfl (lv_at hl 0 rfl) ?_
  refine lv_iconst (v := 5) hx hb dX4_init_47 (by decide) ?_
  refine g_newI h0 hF hS 5 (by decide) (by decide) (Nat.le_of_ble_eq_true rfl) (Nat.le_of_ble_eq_true rfl) (Nat.le_of_ble_eq_true rfl) dX4_init_48 hz (fun H h7_48 hz1 ho hS => ?_)
  have hT := hT.old ho
  have h1_6 := h1_6.old ho
  have h2_13 := h2_13.old ho
  have h3_20 := h3_20.old ho
  have h4_27 := h4_27.old ho
  have h5_34 := h5_34.old ho
  have h6_41 := h6_41.old ho
  clear ho hz; have hz : H.size = a + 8 := by omega
  clear hz1
  refine g_putF h0 hF hnm0 inX4 tyX4 tyX4_ok nmX4 hT hS (by show a ≤ _; omega) (C := RX4) (T := TX4) (N := 10) rfl 7 (by decide) wf_X4_30 rfl rfl rfl (tyX4_ok 7 (by decide)) rfl rfl (Nat.le_of_ble_eq_true rfl) dX4_init_50 (fun H locs hT hz1 oq hS => ?_)
  have h1_6 := h1_6.fr1 oq (by omega)
  have h2_13 := h2_13.fr1 oq (by omega)
  have h3_20 := h3_20.fr1 oq (by omega)
  have h4_27 := h4_27.fr1 oq (by omega)
  have h5_34 := h5_34.fr1 oq (by omega)
  have h6_41 := h6_41.fr1 oq (by omega)
  have h7_48 := h7_48.fr1 oq (by omega)
  have hT : Bk X a (a + 1) [(a, .inr (3, [.int 0, .ref (a + 1), .ref (a + 2), .ref (a + 3), .ref (a + 4), .ref (a + 5), .ref (a + 6), .ref (a + 7), .null, .null]))] H := hT
  have hz := hz1.trans hz; clear hz1 oq
  refine lv_aload_n hx hb dX4_init_53 rfl (lv_at hl 0 rfl) ?_
  refine lv_iconst (v := 5) hx hb dX4_init_54 (by decide) ?_
  refine g_newI h0 hF hS 5 (by decide) (by decide) (Nat.le_of_ble_eq_true rfl) (Nat.le_of_ble_eq_true rfl) (Nat.le_of_ble_eq_true rfl) dX4_init_55 hz (fun H h8_55 hz1 ho hS => ?_)
  have hT := hT.old ho
  have h1_6 := h1_6.old ho
  have h2_13 := h2_13.old ho
  have h3_20 := h3_20.old ho
  have h4_27 := h4_27.old ho
  have h5_34 := h5_34.old ho
  have h6_41 := h6_41.old ho
  have h7_48 := h7_48.old ho
  clear ho hz; have hz : H.size = a + 9 := by omega
  clear hz1
  refine g_putF h0 hF hnm0 inX4 tyX4 tyX4_ok nmX4 hT hS (by show a ≤ _; omega) (C := RX4) (T := TX4) (N := 10) rfl 8 (by decide) wf_X4_33 rfl rfl rfl (tyX4_ok 8 (by decide)) rfl rfl (Nat.le_of_ble_eq_true rfl) dX4_init_57 (fun H locs hT hz1 oq hS => ?_)
  have h1_6 := h1_6.fr1 oq (by omega)
  have h2_13 := h2_13.fr1 oq (by omega)
  have h3_20 := h3_20.fr1 oq (by omega)
  have h4_27 := h4_27.fr1 oq (by omega)
  have h5_34 := h5_34.fr1 oq (by omega)
  have h6_41 := h6_41.fr1 oq (by omega)
  have h7_48 := h7_48.fr1 oq (by omega)
  have h8_55 := h8_55.fr1 oq (by omega)
  have hT : Bk X a (a + 1) [(a, .inr (3, [.int 0, .ref (a + 1), .ref (a + 2), .ref (a + 3), .ref (a + 4), .ref (a + 5), .ref (a + 6), .ref (a + 7), .ref (a + 8), .null]))] H := hT
  have hz := hz1.trans hz; clear hz1 oq
  refine lv_aload_n hx hb dX4_init_60 rfl (lv_at hl 0 rfl) ?_
  refine lv_iconst (v := 5) hx hb dX4_init_61 (by decide) ?_
  refine g_newI h0 hF hS 5 (by decide) (by decide) (Nat.le_of_ble_eq_true rfl) (Nat.le_of_ble_eq_true rfl) (Nat.le_of_ble_eq_true rfl) dX4_init_62 hz (fun H h9_62 hz1 ho hS => ?_)
  have hT := hT.old ho
  have h1_6 := h1_6.old ho
  have h2_13 := h2_13.old ho
  have h3_20 := h3_20.old ho
  have h4_27 := h4_27.old ho
  have h5_34 := h5_34.old ho
  have h6_41 := h6_41.old ho
  have h7_48 := h7_48.old ho
  have h8_55 := h8_55.old ho
  clear ho hz; have hz : H.size = a + 10 := by omega
  clear hz1
  refine g_putF h0 hF hnm0 inX4 tyX4 tyX4_ok nmX4 hT hS (by show a ≤ _; omega) (C := RX4) (T := TX4) (N := 10) rfl 9 (by decide) wf_X4_36 rfl rfl rfl (tyX4_ok 9 (by decide)) rfl rfl (Nat.le_of_ble_eq_true rfl) dX4_init_64 (fun H locs hT hz1 oq hS => ?_)
  have h1_6 := h1_6.fr1 oq (by omega)
  have h2_13 := h2_13.fr1 oq (by omega)
  have h3_20 := h3_20.fr1 oq (by omega)
  have h4_27 := h4_27.fr1 oq (by omega)
  have h5_34 := h5_34.fr1 oq (by omega)
  have h6_41 := h6_41.fr1 oq (by omega)
  have h7_48 := h7_48.fr1 oq (by omega)
  have h8_55 := h8_55.fr1 oq (by omega)
  have h9_62 := h9_62.fr1 oq (by omega)
  have hT : Bk X a (a + 1) [(a, .inr (3, [.int 0, .ref (a + 1), .ref (a + 2), .ref (a + 3), .ref (a + 4), .ref (a + 5), .ref (a + 6), .ref (a + 7), .ref (a + 8), .ref (a + 9)]))] H := hT
  have hz := hz1.trans hz; clear hz1 oq
  exact mm_vret hF hS dX4_init_67 ⟨rfl, hz, (((((((((hT.app h1_6 (by omega)).app h2_13 (by omega)).app h3_20 (by omega)).app h4_27 (by omega)).app h5_34 (by omega)).app h6_41 (by omega)).app h7_48 (by omega)).app h8_55 (by omega)).app h9_62 (by omega))⟩

abbrev ceX7 (X : Cx) (a : Nat) : va_W := [(a, .inr (6, [.int 0, .ref (a + 1), .ref (a + 2), .ref (a + 3), .ref (a + 4), .ref (a + 5)])), (a + 1, .inl (X.cI, 8, .inl (fun _ => 0))), (a + 2, .inl (X.cI, 8, .inl (fun _ => 0))), (a + 3, .inl (X.cI, 8, .inl (fun _ => 0))), (a + 4, .inl (X.cI, 8, .inl (fun _ => 0))), (a + 5, .inl (X.cI, 8, .inl (fun _ => 0)))]
set_option maxHeartbeats 4000000 in
set_option maxRecDepth 100000 in
theorem m_X7_init {X : Cx} {l : Launch} (h0 : Init X) {a : Nat} (ha : X.z ≤ a)  : MM X l yX7_init cX7_init 1 none 1 20 5 40 [.ref a] (fun H => H.size = a + 1 ∧ Bk X a (a + 1) [(a, .inr (6, [.int 0, .null, .null, .null, .null, .null]))] H) (fun v H => v = none ∧ H.size = a + 6 ∧ Bk X a (a + 6) (ceX7 X a) H) (fun q => a ≤ q) := by
  refine Met.mkI (Bh := (fun H => H.size = a + 1 ∧ Bk X a (a + 1) [(a, .inr (6, [.int 0, .null, .null, .null, .null, .null]))] H)) (by decide) (Nat.le_of_ble_eq_true rfl) ?_
  intro p e s m below meth c ls hF hnm0 hB hl
  obtain ⟨hz, hT⟩ := hB
  have hl : lv_has ls 1 [(0, .ref a)] := hl
  obtain ⟨hx, hb, hml, hr, hlk, hown, hG⟩ := id hF
  have hK := hG.K h0
  have hAo : ∀ q, q < X.z → ¬ (fun q => a ≤ q) q := fun q h1 (h2 : a ≤ q) => by omega
  have hS : va_S (fun q => a ≤ q) s.heap s.heap [] := va_S.rf
  refine lv_aload_n hx hb dX7_init_0 rfl (lv_at hl 0 rfl) ?_
  refine g_obj h0 hF wm_X7_3 ⟨Nat.le_of_ble_eq_true rfl, Nat.le_of_ble_eq_true rfl⟩ hl.1 (Nat.le_of_ble_eq_true rfl) dX7_init_1 ?_
  refine lv_aload_n hx hb dX7_init_4 rfl (lv_at hl 0 rfl) ?_
  refine lv_bipush (v := 8) hx hb dX7_init_5 (by decide) ?_
  refine g_newI h0 hF hS 8 (by decide) (by decide) (Nat.le_of_ble_eq_true rfl) (Nat.le_of_ble_eq_true rfl) (Nat.le_of_ble_eq_true rfl) dX7_init_7 hz (fun H h1_7 hz1 ho hS => ?_)
  have hT := hT.old ho
  clear ho hz; have hz : H.size = a + 2 := by omega
  clear hz1
  refine g_putF h0 hF hnm0 inX7 tyX7 tyX7_ok nmX7 hT hS (by show a ≤ _; omega) (C := RX7) (T := TX7) (N := 6) rfl 1 (by decide) wf_X7_9 rfl rfl rfl (tyX7_ok 1 (by decide)) rfl rfl (Nat.le_of_ble_eq_true rfl) dX7_init_9 (fun H locs hT hz1 oq hS => ?_)
  have h1_7 := h1_7.fr1 oq (by omega)
  have hT : Bk X a (a + 1) [(a, .inr (6, [.int 0, .ref (a + 1), .null, .null, .null, .null]))] H := hT
  have hz := hz1.trans hz; clear hz1 oq
  refine lv_aload_n hx hb dX7_init_12 rfl (lv_at hl 0 rfl) ?_
  refine lv_bipush (v := 8) hx hb dX7_init_13 (by decide) ?_
  refine g_newI h0 hF hS 8 (by decide) (by decide) (Nat.le_of_ble_eq_true rfl) (Nat.le_of_ble_eq_true rfl) (Nat.le_of_ble_eq_true rfl) dX7_init_15 hz (fun H h2_15 hz1 ho hS => ?_)
  have hT := hT.old ho
  have h1_7 := h1_7.old ho
  clear ho hz; have hz : H.size = a + 3 := by omega
  clear hz1
  refine g_putF h0 hF hnm0 inX7 tyX7 tyX7_ok nmX7 hT hS (by show a ≤ _; omega) (C := RX7) (T := TX7) (N := 6) rfl 2 (by decide) wf_X7_15 rfl rfl rfl (tyX7_ok 2 (by decide)) rfl rfl (Nat.le_of_ble_eq_true rfl) dX7_init_17 (fun H locs hT hz1 oq hS => ?_)
  have h1_7 := h1_7.fr1 oq (by omega)
  have h2_15 := h2_15.fr1 oq (by omega)
  have hT : Bk X a (a + 1) [(a, .inr (6, [.int 0, .ref (a + 1), .ref (a + 2), .null, .null, .null]))] H := hT
  have hz := hz1.trans hz; clear hz1 oq
  refine lv_aload_n hx hb dX7_init_20 rfl (lv_at hl 0 rfl) ?_
  refine lv_bipush (v := 8) hx hb dX7_init_21 (by decide) ?_
  refine g_newI h0 hF hS 8 (by decide) (by decide) (Nat.le_of_ble_eq_true rfl) (Nat.le_of_ble_eq_true rfl) (Nat.le_of_ble_eq_true rfl) dX7_init_23 hz (fun H h3_23 hz1 ho hS => ?_)
  have hT := hT.old ho
  have h1_7 := h1_7.old ho
  have h2_15 := h2_15.old ho
  clear ho hz; have hz : H.size = a + 4 := by omega
  clear hz1
  refine g_putF h0 hF hnm0 inX7 tyX7 tyX7_ok nmX7 hT hS (by show a ≤ _; omega) (C := RX7) (T := TX7) (N := 6) rfl 3 (by decide) wf_X7_18 rfl rfl rfl (tyX7_ok 3 (by decide)) rfl rfl (Nat.le_of_ble_eq_true rfl) dX7_init_25 (fun H locs hT hz1 oq hS => ?_)
  have h1_7 := h1_7.fr1 oq (by omega)
  have h2_15 := h2_15.fr1 oq (by omega)
  have h3_23 := h3_23.fr1 oq (by omega)
  have hT : Bk X a (a + 1) [(a, .inr (6, [.int 0, .ref (a + 1), .ref (a + 2), .ref (a + 3), .null, .null]))] H := hT
  have hz := hz1.trans hz; clear hz1 oq
  refine lv_aload_n hx hb dX7_init_28 rfl (lv_at hl 0 rfl) ?_
  refine lv_bipush (v := 8) hx hb dX7_init_29 (by decide) ?_
  refine g_newI h0 hF hS 8 (by decide) (by decide) (Nat.le_of_ble_eq_true rfl) (Nat.le_of_ble_eq_true rfl) (Nat.le_of_ble_eq_true rfl) dX7_init_31 hz (fun H h4_31 hz1 ho hS => ?_)
  have hT := hT.old ho
  have h1_7 := h1_7.old ho
  have h2_15 := h2_15.old ho
  have h3_23 := h3_23.old ho
  clear ho hz; have hz : H.size = a + 5 := by omega
  clear hz1
  refine g_putF h0 hF hnm0 inX7 tyX7 tyX7_ok nmX7 hT hS (by show a ≤ _; omega) (C := RX7) (T := TX7) (N := 6) rfl 4 (by decide) wf_X7_21 rfl rfl rfl (tyX7_ok 4 (by decide)) rfl rfl (Nat.le_of_ble_eq_true rfl) dX7_init_33 (fun H locs hT hz1 oq hS => ?_)
  have h1_7 := h1_7.fr1 oq (by omega)
  have h2_15 := h2_15.fr1 oq (by omega)
  have h3_23 := h3_23.fr1 oq (by omega)
  have h4_31 := h4_31.fr1 oq (by omega)
  have hT : Bk X a (a + 1) [(a, .inr (6, [.int 0, .ref (a + 1), .ref (a + 2), .ref (a + 3), .ref (a + 4), .null]))] H := hT
  have hz := hz1.trans hz; clear hz1 oq
  refine lv_aload_n hx hb dX7_init_36 rfl (lv_at hl 0 rfl) ?_
  refine lv_bipush (v := 8) hx hb dX7_init_37 (by decide) ?_
  refine g_newI h0 hF hS 8 (by decide) (by decide) (Nat.le_of_ble_eq_true rfl) (Nat.le_of_ble_eq_true rfl) (Nat.le_of_ble_eq_true rfl) dX7_init_39 hz (fun H h5_39 hz1 ho hS => ?_)
  have hT := hT.old ho
  have h1_7 := h1_7.old ho
  have h2_15 := h2_15.old ho
  have h3_23 := h3_23.old ho
  have h4_31 := h4_31.old ho
  clear ho hz; have hz : H.size = a + 6 := by omega
  clear hz1
  refine g_putF h0 hF hnm0 inX7 tyX7 tyX7_ok nmX7 hT hS (by show a ≤ _; omega) (C := RX7) (T := TX7) (N := 6) rfl 5 (by decide) wf_X7_24 rfl rfl rfl (tyX7_ok 5 (by decide)) rfl rfl (Nat.le_of_ble_eq_true rfl) dX7_init_41 (fun H locs hT hz1 oq hS => ?_)
  have h1_7 := h1_7.fr1 oq (by omega)
  have h2_15 := h2_15.fr1 oq (by omega)
  have h3_23 := h3_23.fr1 oq (by omega)
  have h4_31 := h4_31.fr1 oq (by omega)
  have h5_39 := h5_39.fr1 oq (by omega)
  have hT : Bk X a (a + 1) [(a, .inr (6, [.int 0, .ref (a + 1), .ref (a + 2), .ref (a + 3), .ref (a + 4), .ref (a + 5)]))] H := hT
  have hz := hz1.trans hz; clear hz1 oq
  exact mm_vret hF hS dX7_init_44 ⟨rfl, hz, (((((hT.app h1_7 (by omega)).app h2_15 (by omega)).app h3_23 (by omega)).app h4_31 (by omega)).app h5_39 (by omega))⟩

theorem Bk.sky {X : Cx} {a : Nat} {H : Heap} (h : Bk X a (a + 23) ([(a, .inr (4, [.ref (a + 1), .ref (a + 7), .ref (a + 17), .int 0, .int 0]))] ++ ceX6 X (a + 1) ++ ceX4 X (a + 7) ++ ceX7 X (a + 17)) H) : Bk X a (a + 23) (skW X (fS a) k00) H := by
  have hP := h.1.sub pmS (ws' := skW X (fS a) k00) rfl
  refine ⟨hP, fun k q hk => ?_⟩
  have e : ((skW X (fS a) k00).map Prod.fst)[k]? = some q.1 := by rw [List.getElem?_map, hk]; rfl
  have hl : k < 23 := (List.getElem?_eq_some_iff.mp hk).1
  have e2 : (skW X (fS a) k00).map Prod.fst = (List.range 23).map (fS a) := rfl
  rw [e2, List.getElem?_map, List.getElem?_range hl] at e
  have e3 : fS a k = q.1 := Option.some.inj e
  have h9 : ∀ j, j < 23 → pmS.getD j 0 < 23 := by decide
  have := h9 k hl
  rw [← e3]
  unfold fS
  omega


set_option maxHeartbeats 4000000 in
set_option maxRecDepth 100000 in
theorem m_X5_init {X : Cx} {l : Launch} (h0 : Init X) {a : Nat} (ha : X.z ≤ a)  : MM X l yX5_init cX5_init 1 none 2 40 22 143 [.ref a] (fun H => H.size = a + 1 ∧ Bk X a (a + 1) [(a, .inr (4, [.null, .null, .null, .int 0, .int 0]))] H) (fun v H => v = none ∧ H.size = a + 23 ∧ Bk X a (a + 23) (skW X (fS a) k00) H) (fun q => a ≤ q) := by
  refine Met.mkI (Bh := (fun H => H.size = a + 1 ∧ Bk X a (a + 1) [(a, .inr (4, [.null, .null, .null, .int 0, .int 0]))] H)) (by decide) (Nat.le_of_ble_eq_true rfl) ?_
  intro p e s m below meth c ls hF hnm0 hB hl
  obtain ⟨hz, hT⟩ := hB
  have hl : lv_has ls 1 [(0, .ref a)] := hl
  obtain ⟨hx, hb, hml, hr, hlk, hown, hG⟩ := id hF
  have hK := hG.K h0
  have hAo : ∀ q, q < X.z → ¬ (fun q => a ≤ q) q := fun q h1 (h2 : a ≤ q) => by omega
  have hS : va_S (fun q => a ≤ q) s.heap s.heap [] := va_S.rf
  refine lv_aload_n hx hb dX5_init_0 rfl (lv_at hl 0 rfl) ?_
  refine g_obj h0 hF wm_X5_3 ⟨Nat.le_of_ble_eq_true rfl, Nat.le_of_ble_eq_true rfl⟩ hl.1 (Nat.le_of_ble_eq_true rfl) dX5_init_1 ?_
  refine lv_aload_n hx hb dX5_init_4 rfl (lv_at hl 0 rfl) ?_
  refine g_new h0 hF inX6 tyX6 tyX6_ok wk_X5_9 wi_X6 wz_X6 hS (ci := 5) rfl [.int 0, .null, .null, .null, .null, .null] (by decide) (Nat.le_of_ble_eq_true rfl) (Nat.le_of_ble_eq_true rfl) dX5_init_5 hz (fun H h1_5 hz1 ho hS => ?_)
  have hT := hT.old ho
  clear ho hz; have hz : H.size = a + 2 := by omega
  clear hz1
  refine lv_dup hx hb dX5_init_8 rfl ?_
  refine core_m (A1 := fun q => a + 1 ≤ q) (grIN (Bh := fun H => H.size = a + 1 + 1 ∧ Bk X (a + 1) (a + 1 + 1) [(a + 1, .inr (5, [.int 0, .null, .null, .null, .null, .null]))] H) (n := 0) (As := []) (rest := [.ref (a + 1), .ref a]) h0 hF (m_X6_init h0 (a := a + 1) (by omega)) wmn_X5_11 wo_X6_init wz_X6 wc_X6_init rfl ⟨by decide, by decide, by decide +kernel⟩ rfl ⟨Nat.le_of_ble_eq_true rfl, Nat.le_of_ble_eq_true rfl⟩ ⟨hz, h1_5⟩ hS hAo ⟨Nat.le_of_ble_eq_true rfl, Nat.le_of_ble_eq_true rfl⟩ hl.1 rfl (Nat.le_of_ble_eq_true rfl) dX5_init_9) hS (fun q (h8 : a + 1 ≤ q) => (show a ≤ q from by omega)) (fun v' H locs hq hz1 hk1 hS => ?_)
  have hT := hT.keep hk1 (fun q h9 h7 (h8 : a + 1 ≤ q) => by omega)
  clear hz hk1 hz1; obtain ⟨rfl, hz, h1_5⟩ := hq
  have hz : H.size = a + 7 := by omega
  have h1_5 : Bk X (a + 1) (a + 7) (ceX6 X (a + 1)) H := h1_5.wk (by omega)
  refine g_putF h0 hF hnm0 inX5 tyX5 tyX5_ok nmX5 hT hS (by show a ≤ _; omega) (C := RX5) (T := TX5) (N := 5) rfl 0 (by decide) wf_X5_12 rfl rfl rfl (tyX5_ok 0 (by decide)) rfl rfl (Nat.le_of_ble_eq_true rfl) dX5_init_12 (fun H locs hT hz1 oq hS => ?_)
  have h1_5 := h1_5.fr1 oq (by omega)
  have hT : Bk X a (a + 1) [(a, .inr (4, [.ref (a + 1), .null, .null, .int 0, .int 0]))] H := hT
  have hz := hz1.trans hz; clear hz1 oq
  refine lv_aload_n hx hb dX5_init_15 rfl (lv_at hl 0 rfl) ?_
  refine g_new h0 hF inX4 tyX4 tyX4_ok wk_X5_18 wi_X4 wz_X4 hS (ci := 3) rfl [.int 0, .null, .null, .null, .null, .null, .null, .null, .null, .null] (by decide) (Nat.le_of_ble_eq_true rfl) (Nat.le_of_ble_eq_true rfl) dX5_init_16 hz (fun H h7_16 hz1 ho hS => ?_)
  have hT := hT.old ho
  have h1_5 := h1_5.old ho
  clear ho hz; have hz : H.size = a + 8 := by omega
  clear hz1
  refine lv_dup hx hb dX5_init_19 rfl ?_
  refine core_m (A1 := fun q => a + 7 ≤ q) (grIN (Bh := fun H => H.size = a + 7 + 1 ∧ Bk X (a + 7) (a + 7 + 1) [(a + 7, .inr (3, [.int 0, .null, .null, .null, .null, .null, .null, .null, .null, .null]))] H) (n := 0) (As := []) (rest := [.ref (a + 7), .ref a]) h0 hF (m_X4_init h0 (a := a + 7) (by omega)) wmn_X5_20 wo_X4_init wz_X4 wc_X4_init rfl ⟨by decide, by decide, by decide +kernel⟩ rfl ⟨Nat.le_of_ble_eq_true rfl, Nat.le_of_ble_eq_true rfl⟩ ⟨hz, h7_16⟩ hS hAo ⟨Nat.le_of_ble_eq_true rfl, Nat.le_of_ble_eq_true rfl⟩ hl.1 rfl (Nat.le_of_ble_eq_true rfl) dX5_init_20) hS (fun q (h8 : a + 7 ≤ q) => (show a ≤ q from by omega)) (fun v' H locs hq hz1 hk1 hS => ?_)
  have hT := hT.keep hk1 (fun q h9 h7 (h8 : a + 7 ≤ q) => by omega)
  have h1_5 := h1_5.keep hk1 (fun q h9 h7 (h8 : a + 7 ≤ q) => by omega)
  clear hz hk1 hz1; obtain ⟨rfl, hz, h7_16⟩ := hq
  have hz : H.size = a + 17 := by omega
  have h7_16 : Bk X (a + 7) (a + 17) (ceX4 X (a + 7)) H := h7_16.wk (by omega)
  refine g_putF h0 hF hnm0 inX5 tyX5 tyX5_ok nmX5 hT hS (by show a ≤ _; omega) (C := RX5) (T := TX5) (N := 5) rfl 1 (by decide) wf_X5_21 rfl rfl rfl (tyX5_ok 1 (by decide)) rfl rfl (Nat.le_of_ble_eq_true rfl) dX5_init_23 (fun H locs hT hz1 oq hS => ?_)
  have h1_5 := h1_5.fr1 oq (by omega)
  have h7_16 := h7_16.fr1 oq (by omega)
  have hT : Bk X a (a + 1) [(a, .inr (4, [.ref (a + 1), .ref (a + 7), .null, .int 0, .int 0]))] H := hT
  have hz := hz1.trans hz; clear hz1 oq
  refine lv_aload_n hx hb dX5_init_26 rfl (lv_at hl 0 rfl) ?_
  refine g_new h0 hF inX7 tyX7 tyX7_ok wk_X5_25 wi_X7 wz_X7 hS (ci := 6) rfl [.int 0, .null, .null, .null, .null, .null] (by decide) (Nat.le_of_ble_eq_true rfl) (Nat.le_of_ble_eq_true rfl) dX5_init_27 hz (fun H h17_27 hz1 ho hS => ?_)
  have hT := hT.old ho
  have h1_5 := h1_5.old ho
  have h7_16 := h7_16.old ho
  clear ho hz; have hz : H.size = a + 18 := by omega
  clear hz1
  refine lv_dup hx hb dX5_init_30 rfl ?_
  refine core_m (A1 := fun q => a + 17 ≤ q) (grIN (Bh := fun H => H.size = a + 17 + 1 ∧ Bk X (a + 17) (a + 17 + 1) [(a + 17, .inr (6, [.int 0, .null, .null, .null, .null, .null]))] H) (n := 0) (As := []) (rest := [.ref (a + 17), .ref a]) h0 hF (m_X7_init h0 (a := a + 17) (by omega)) wmn_X5_27 wo_X7_init wz_X7 wc_X7_init rfl ⟨by decide, by decide, by decide +kernel⟩ rfl ⟨Nat.le_of_ble_eq_true rfl, Nat.le_of_ble_eq_true rfl⟩ ⟨hz, h17_27⟩ hS hAo ⟨Nat.le_of_ble_eq_true rfl, Nat.le_of_ble_eq_true rfl⟩ hl.1 rfl (Nat.le_of_ble_eq_true rfl) dX5_init_31) hS (fun q (h8 : a + 17 ≤ q) => (show a ≤ q from by omega)) (fun v' H locs hq hz1 hk1 hS => ?_)
  have hT := hT.keep hk1 (fun q h9 h7 (h8 : a + 17 ≤ q) => by omega)
  have h1_5 := h1_5.keep hk1 (fun q h9 h7 (h8 : a + 17 ≤ q) => by omega)
  have h7_16 := h7_16.keep hk1 (fun q h9 h7 (h8 : a + 17 ≤ q) => by omega)
  clear hz hk1 hz1; obtain ⟨rfl, hz, h17_27⟩ := hq
  have hz : H.size = a + 23 := by omega
  have h17_27 : Bk X (a + 17) (a + 23) (ceX7 X (a + 17)) H := h17_27.wk (by omega)
  refine g_putF h0 hF hnm0 inX5 tyX5 tyX5_ok nmX5 hT hS (by show a ≤ _; omega) (C := RX5) (T := TX5) (N := 5) rfl 2 (by decide) wf_X5_28 rfl rfl rfl (tyX5_ok 2 (by decide)) rfl rfl (Nat.le_of_ble_eq_true rfl) dX5_init_34 (fun H locs hT hz1 oq hS => ?_)
  have h1_5 := h1_5.fr1 oq (by omega)
  have h7_16 := h7_16.fr1 oq (by omega)
  have h17_27 := h17_27.fr1 oq (by omega)
  have hT : Bk X a (a + 1) [(a, .inr (4, [.ref (a + 1), .ref (a + 7), .ref (a + 17), .int 0, .int 0]))] H := hT
  have hz := hz1.trans hz; clear hz1 oq
  exact mm_vret hF hS dX5_init_37 ⟨rfl, hz, (Bk.sky (((hT.app h1_5 (by omega)).app h7_16 (by omega)).app h17_27 (by omega)))⟩


set_option maxHeartbeats 4000000 in
set_option maxRecDepth 100000 in
theorem m_X3_init {X : Cx} {l : Launch} (h0 : Init X) {a : Nat} (ha : X.z ≤ a)  : MM X l yX3_init cX3_init 1 none 1 20 0 0 [.ref a] (fun H => H.size = a + 1 ∧ Bk X a (a + 1) [(a, .inr (2, [.int 0, .int 0, .int 0, .int 0]))] H) (fun v H => v = none ∧ H.size = a + 1 ∧ Bk X a (a + 1) (reW a (fun _ => -4)) H) (fun q => a ≤ q) := by
  refine Met.mkI (Bh := (fun H => H.size = a + 1 ∧ Bk X a (a + 1) [(a, .inr (2, [.int 0, .int 0, .int 0, .int 0]))] H)) (by decide) (Nat.le_of_ble_eq_true rfl) ?_
  intro p e s m below meth c ls hF hnm0 hB hl
  obtain ⟨hz, hT⟩ := hB
  have hl : lv_has ls 1 [(0, .ref a)] := hl
  obtain ⟨hx, hb, hml, hr, hlk, hown, hG⟩ := id hF
  have hK := hG.K h0
  have hAo : ∀ q, q < X.z → ¬ (fun q => a ≤ q) q := fun q h1 (h2 : a ≤ q) => by omega
  have hS : va_S (fun q => a ≤ q) s.heap s.heap [] := va_S.rf
  refine lv_aload_n hx hb dX3_init_0 rfl (lv_at hl 0 rfl) ?_
  refine g_obj h0 hF wm_X3_3 ⟨Nat.le_of_ble_eq_true rfl, Nat.le_of_ble_eq_true rfl⟩ hl.1 (Nat.le_of_ble_eq_true rfl) dX3_init_1 ?_
  refine lv_aload_n hx hb dX3_init_4 rfl (lv_at hl 0 rfl) ?_
  refine lv_bipush (v := (-4)) hx hb dX3_init_5 (by decide) ?_
  refine g_putB h0 hF inX3 tyX3 tyX3_ok nmX3 hT hS (by show a ≤ _; omega) (C := RX3) (T := TX3) (N := 4) rfl 0 (by decide) wf_X3_9 rfl rfl (tyX3_ok 0 (by decide)) rfl rfl (Nat.le_of_ble_eq_true rfl) dX3_init_7 (fun H locs hT hz1 oq hS => ?_)
  have hT : Bk X a (a + 1) [(a, .inr (2, [.int (-4), .int 0, .int 0, .int 0]))] H := hT
  have hz := hz1.trans hz; clear hz1 oq
  refine lv_aload_n hx hb dX3_init_10 rfl (lv_at hl 0 rfl) ?_
  refine lv_bipush (v := (-4)) hx hb dX3_init_11 (by decide) ?_
  refine g_putB h0 hF inX3 tyX3 tyX3_ok nmX3 hT hS (by show a ≤ _; omega) (C := RX3) (T := TX3) (N := 4) rfl 1 (by decide) wf_X3_15 rfl rfl (tyX3_ok 1 (by decide)) rfl rfl (Nat.le_of_ble_eq_true rfl) dX3_init_13 (fun H locs hT hz1 oq hS => ?_)
  have hT : Bk X a (a + 1) [(a, .inr (2, [.int (-4), .int (-4), .int 0, .int 0]))] H := hT
  have hz := hz1.trans hz; clear hz1 oq
  refine lv_aload_n hx hb dX3_init_16 rfl (lv_at hl 0 rfl) ?_
  refine lv_bipush (v := (-4)) hx hb dX3_init_17 (by decide) ?_
  refine g_putB h0 hF inX3 tyX3 tyX3_ok nmX3 hT hS (by show a ≤ _; omega) (C := RX3) (T := TX3) (N := 4) rfl 2 (by decide) wf_X3_18 rfl rfl (tyX3_ok 2 (by decide)) rfl rfl (Nat.le_of_ble_eq_true rfl) dX3_init_19 (fun H locs hT hz1 oq hS => ?_)
  have hT : Bk X a (a + 1) [(a, .inr (2, [.int (-4), .int (-4), .int (-4), .int 0]))] H := hT
  have hz := hz1.trans hz; clear hz1 oq
  refine lv_aload_n hx hb dX3_init_22 rfl (lv_at hl 0 rfl) ?_
  refine lv_bipush (v := (-4)) hx hb dX3_init_23 (by decide) ?_
  refine g_putB h0 hF inX3 tyX3 tyX3_ok nmX3 hT hS (by show a ≤ _; omega) (C := RX3) (T := TX3) (N := 4) rfl 3 (by decide) wf_X3_21 rfl rfl (tyX3_ok 3 (by decide)) rfl rfl (Nat.le_of_ble_eq_true rfl) dX3_init_25 (fun H locs hT hz1 oq hS => ?_)
  have hT : Bk X a (a + 1) [(a, .inr (2, [.int (-4), .int (-4), .int (-4), .int (-4)]))] H := hT
  have hz := hz1.trans hz; clear hz1 oq
  exact mm_vret hF hS dX3_init_28 ⟨rfl, hz, hT⟩


set_option maxHeartbeats 4000000 in
set_option maxRecDepth 100000 in
theorem m_J5_init_d00df {X : Cx} {l : Launch} (h0 : Init X) {a : Nat} (ha : X.z ≤ a)  : MM X l yJ5_init_d00df cJ5_init_d00df 2 none 1 20 1 16 [.ref a, .int 16] (fun H => H.size = a + 1 ∧ Bk X a (a + 1) [(a, .inr (0, [.null, .int 0, .int 0, .int 0]))] H) (fun v H => v = none ∧ H.size = a + 2 ∧ Bk X a (a + 2) (bfW X a (a + 1) 0 0 16 (fun _ => 0)) H) (fun q => a ≤ q) := by
  refine Met.mkI (Bh := (fun H => H.size = a + 1 ∧ Bk X a (a + 1) [(a, .inr (0, [.null, .int 0, .int 0, .int 0]))] H)) (by decide) (Nat.le_of_ble_eq_true rfl) ?_
  intro p e s m below meth c ls hF hnm0 hB hl
  obtain ⟨hz, hT⟩ := hB
  have hl : lv_has ls 2 [(0, .ref a), (1, .int 16)] := hl
  obtain ⟨hx, hb, hml, hr, hlk, hown, hG⟩ := id hF
  have hK := hG.K h0
  have hAo : ∀ q, q < X.z → ¬ (fun q => a ≤ q) q := fun q h1 (h2 : a ≤ q) => by omega
  have hS : va_S (fun q => a ≤ q) s.heap s.heap [] := va_S.rf
  refine lv_aload_n hx hb dJ5_init_d00df_0 rfl (lv_at hl 0 rfl) ?_
  refine g_obj h0 hF wm_J5_3 ⟨Nat.le_of_ble_eq_true rfl, Nat.le_of_ble_eq_true rfl⟩ hl.1 (Nat.le_of_ble_eq_true rfl) dJ5_init_d00df_1 ?_
  refine va_gets hx hb (hG.Z hAo (csZ h0)) hS hown (hG.hts h0 _ _ wf_J5_18) (fun _ h9 => h9) dJ5_init_d00df_4 ?_
  refine lv_if_eq (tgt := 25) hx hb dJ5_init_d00df_7 (by decide) (fun c_7 => absurd c_7 (by decide)) (fun c_7 => ?_)
  refine lv_aload_n hx hb dJ5_init_d00df_10 rfl (lv_at hl 0 rfl) ?_
  refine lv_iload_n hx hb dJ5_init_d00df_11 rfl (lv_at hl 1 rfl) ?_
  refine g_newB h0 hF hS 16 (by decide) (by decide) (Nat.le_of_ble_eq_true rfl) (Nat.le_of_ble_eq_true rfl) (Nat.le_of_ble_eq_true rfl) dJ5_init_d00df_12 hz (fun H h1_12 hz1 ho hS => ?_)
  have hT := hT.old ho
  clear ho hz; have hz : H.size = a + 2 := by omega
  clear hz1
  refine g_putB h0 hF inJ4 tyJ4 tyJ4_ok nmJ4 hT hS (by show a ≤ _; omega) (C := RJ4) (T := TJ4) (N := 4) rfl 0 (by decide) wf_J5_15 rfl rfl (tyJ4_ok 0 (by decide)) rfl rfl (Nat.le_of_ble_eq_true rfl) dJ5_init_d00df_14 (fun H locs hT hz1 oq hS => ?_)
  have h1_12 := h1_12.fr1 oq (by omega)
  have hT : Bk X a (a + 1) [(a, .inr (0, [.ref (a + 1), .int 0, .int 0, .int 0]))] H := hT
  have hz := hz1.trans hz; clear hz1 oq
  refine lv_aload_n hx hb dJ5_init_d00df_17 rfl (lv_at hl 0 rfl) ?_
  refine lv_iconst (v := 0) hx hb dJ5_init_d00df_18 (by decide) ?_
  refine g_putB h0 hF inJ4 tyJ4 tyJ4_ok nmJ4 hT hS (by show a ≤ _; omega) (C := RJ4) (T := TJ4) (N := 4) rfl 1 (by decide) wf_J5_22 rfl rfl (tyJ4_ok 1 (by decide)) rfl rfl (Nat.le_of_ble_eq_true rfl) dJ5_init_d00df_19 (fun H locs hT hz1 oq hS => ?_)
  have h1_12 := h1_12.fr1 oq (by omega)
  have hT : Bk X a (a + 1) [(a, .inr (0, [.ref (a + 1), .int 0, .int 0, .int 0]))] H := hT
  have hz := hz1.trans hz; clear hz1 oq
  refine lv_goto (tgt := 38) hx hb dJ5_init_d00df_22 (by decide) ?_
  exact mm_vret hF hS dJ5_init_d00df_38 ⟨rfl, hz, (hT.app h1_12 (by omega))⟩


set_option maxHeartbeats 4000000 in
set_option maxRecDepth 100000 in
theorem m_J4_init_da8c8 {X : Cx} {l : Launch} (h0 : Init X) {a : Nat} (ha : X.z ≤ a)  : MM X l yJ4_init_da8c8 cJ4_init_da8c8 1 none 2 41 1 16 [.ref a] (fun H => H.size = a + 1 ∧ Bk X a (a + 1) [(a, .inr (0, [.null, .int 0, .int 0, .int 0]))] H) (fun v H => v = none ∧ H.size = a + 2 ∧ Bk X a (a + 2) (bfW X a (a + 1) 0 0 16 (fun _ => 0)) H) (fun q => a ≤ q) := by
  refine Met.mkI (Bh := (fun H => H.size = a + 1 ∧ Bk X a (a + 1) [(a, .inr (0, [.null, .int 0, .int 0, .int 0]))] H)) (by decide) (Nat.le_of_ble_eq_true rfl) ?_
  intro p e s m below meth c ls hF hnm0 hB hl
  obtain ⟨hz, hT⟩ := hB
  have hl : lv_has ls 1 [(0, .ref a)] := hl
  obtain ⟨hx, hb, hml, hr, hlk, hown, hG⟩ := id hF
  have hK := hG.K h0
  have hAo : ∀ q, q < X.z → ¬ (fun q => a ≤ q) q := fun q h1 (h2 : a ≤ q) => by omega
  have hS : va_S (fun q => a ≤ q) s.heap s.heap [] := va_S.rf
  refine lv_aload_n hx hb dJ4_init_da8c8_0 rfl (lv_at hl 0 rfl) ?_
  refine lv_bipush (v := 16) hx hb dJ4_init_da8c8_1 (by decide) ?_
  refine core_m (A1 := fun q => a ≤ q) (grI (Bh := fun H => H.size = a + 1 ∧ Bk X a (a + 1) [(a, .inr (0, [.null, .int 0, .int 0, .int 0]))] H) (n := 1) (As := [.int 16]) (rest := []) h0 hF (m_J5_init_d00df h0 (a := a) (by omega)) wm_J4_1 wo_J5_init_d00df wz_J5 wc_J5_init_d00df rfl ⟨by decide, by decide, by decide +kernel⟩ rfl ⟨Nat.le_of_ble_eq_true rfl, Nat.le_of_ble_eq_true rfl⟩ ⟨hz, hT⟩ hS hAo ⟨Nat.le_of_ble_eq_true rfl, Nat.le_of_ble_eq_true rfl⟩ hl.1 rfl (Nat.le_of_ble_eq_true rfl) dJ4_init_da8c8_3) hS (fun q (h8 : a ≤ q) => (show a ≤ q from by omega)) (fun v' H locs hq hz1 hk1 hS => ?_)
  clear hz hk1 hz1; obtain ⟨rfl, hz, hT⟩ := hq
  have hz : H.size = a + 2 := by omega
  have hT : Bk X a (a + 2) (bfW X a (a + 1) 0 0 16 (fun _ => 0)) H := hT.wk (by omega)
  exact mm_vret hF hS dJ4_init_da8c8_6 ⟨rfl, hz, hT⟩

abbrev ceX8 (X : Cx) (cm : Nat → Nat) (a : Nat) : va_W := [(a, .inr (7, [.ref (cm 11), .int 0, .ref (a + 1)])), (a + 1, .inl (X.cI, 3, .inl (fun _ => 0)))]
set_option maxHeartbeats 4000000 in
set_option maxRecDepth 100000 in
theorem m_X8_init {X : Cx} {l : Launch} (h0 : Init X) {a : Nat} (ha : X.z ≤ a) {cm : Nat → Nat} {sm : Nat} (hC : StC X cm sm) : MM X l yX8_init cX8_init 1 none 1 20 1 3 [.ref a] (fun H => H.size = a + 1 ∧ Bk X a (a + 1) [(a, .inr (7, [.null, .int 0, .null]))] H) (fun v H => v = none ∧ H.size = a + 2 ∧ Bk X a (a + 2) (ceX8 X cm a) H) (fun q => a ≤ q) := by
  refine Met.mkI (Bh := (fun H => H.size = a + 1 ∧ Bk X a (a + 1) [(a, .inr (7, [.null, .int 0, .null]))] H)) (by decide) (Nat.le_of_ble_eq_true rfl) ?_
  intro p e s m below meth c ls hF hnm0 hB hl
  obtain ⟨hz, hT⟩ := hB
  have hl : lv_has ls 1 [(0, .ref a)] := hl
  obtain ⟨hx, hb, hml, hr, hlk, hown, hG⟩ := id hF
  have hK := hG.K h0
  have hAo : ∀ q, q < X.z → ¬ (fun q => a ≤ q) q := fun q h1 (h2 : a ≤ q) => by omega
  have hS : va_S (fun q => a ≤ q) s.heap s.heap [] := va_S.rf
  refine lv_aload_n hx hb dX8_init_0 rfl (lv_at hl 0 rfl) ?_
  refine g_obj h0 hF wm_X8_3 ⟨Nat.le_of_ble_eq_true rfl, Nat.le_of_ble_eq_true rfl⟩ hl.1 (Nat.le_of_ble_eq_true rfl) dX8_init_1 ?_
  refine lv_aload_n hx hb dX8_init_4 rfl (lv_at hl 0 rfl) ?_
  refine va_gets hx hb (hG.Z hAo (hC.1.1 11 (by decide)).1) hS hown (hG.hts h0 _ _ wf_X8_9) (fun _ h9 => h9) dX8_init_5 ?_
  refine g_putB h0 hF inX8 tyX8 tyX8_ok nmX8 hT hS (by show a ≤ _; omega) (C := RX8) (T := TX8) (N := 3) rfl 0 (by decide) wf_X8_15 rfl rfl (tyX8_ok 0 (by decide)) rfl rfl (Nat.le_of_ble_eq_true rfl) dX8_init_8 (fun H locs hT hz1 oq hS => ?_)
  have hT : Bk X a (a + 1) [(a, .inr (7, [.ref (cm 11), .int 0, .null]))] H := hT
  have hz := hz1.trans hz; clear hz1 oq
  refine lv_aload_n hx hb dX8_init_11 rfl (lv_at hl 0 rfl) ?_
  refine lv_iconst (v := 3) hx hb dX8_init_12 (by decide) ?_
  refine g_newI h0 hF hS 3 (by decide) (by decide) (Nat.le_of_ble_eq_true rfl) (Nat.le_of_ble_eq_true rfl) (Nat.le_of_ble_eq_true rfl) dX8_init_13 hz (fun H h1_13 hz1 ho hS => ?_)
  have hT := hT.old ho
  clear ho hz; have hz : H.size = a + 2 := by omega
  clear hz1
  refine g_putF h0 hF hnm0 inX8 tyX8 tyX8_ok nmX8 hT hS (by show a ≤ _; omega) (C := RX8) (T := TX8) (N := 3) rfl 2 (by decide) wf_X8_20 rfl rfl rfl (tyX8_ok 2 (by decide)) rfl rfl (Nat.le_of_ble_eq_true rfl) dX8_init_15 (fun H locs hT hz1 oq hS => ?_)
  have h1_13 := h1_13.fr1 oq (by omega)
  have hT : Bk X a (a + 1) [(a, .inr (7, [.ref (cm 11), .int 0, .ref (a + 1)]))] H := hT
  have hz := hz1.trans hz; clear hz1 oq
  exact mm_vret hF hS dX8_init_18 ⟨rfl, hz, (hT.app h1_13 (by omega))⟩

/-- the row of the past's skies, j of them made -/
def paF (a j : Nat) : Nat → Option Nat := fun i => if i < j then some (a + 2 + 23 * i) else none
def Bp (X : Cx) (a : Nat) (H : Heap) : Prop := Bk X a (a + 1) [(a, .inr (1, [.int 0, .int 0, .ref (a + 1)]))] H ∧ Bk X (a + 1) (a + 2) [(a + 1, .inl (X.cS, 9, .inr (.inr (.inr (.inr (paF a 9))))))] H ∧ ∀ i, i < 9 → Bk X (a + 2 + 23 * i) (a + 2 + 23 * i + 23) (skW X (fS (a + 2 + 23 * i)) k00) H
theorem Bp.keep {X : Cx} {a : Nat} {H H1 : Heap} {A1 : Nat → Prop} (h : Bp X a H) (hk : ∀ q : Nat, q < H.size → ¬ A1 q → H1[q]? = H[q]?) (hA : ∀ q, a ≤ q → q < a + 209 → ¬ A1 q) : Bp X a H1 :=
  ⟨h.1.keep hk (fun q h1 h2 => hA q h1 (by omega)), h.2.1.keep hk (fun q h1 h2 => hA q (by omega) (by omega)), fun i hi => (h.2.2 i hi).keep hk (fun q h1 h2 => hA q (by omega) (by omega))⟩
theorem Bp.old {X : Cx} {a : Nat} {H H1 : Heap} (h : Bp X a H) (hk : ∀ q : Nat, q < H.size → H1[q]? = H[q]?) : Bp X a H1 := h.keep (A1 := fun _ => False) (fun q h1 _ => hk q h1) (fun _ _ _ h => h)
theorem Bp.fr1 {X : Cx} {a b : Nat} {H H1 : Heap} (h : Bp X a H) (oq : ∀ q : Nat, q ≠ b → H1[q]? = H[q]?) (ha : ¬ (a ≤ b ∧ b < a + 209)) : Bp X a H1 := h.keep (A1 := fun q => q = b) (fun q _ h1 => oq q h1) (fun q h1 h2 h3 => ha (by rw [← h3]; exact ⟨h1, h2⟩))
set_option maxHeartbeats 4000000 in
set_option maxRecDepth 100000 in
theorem m_X2_init {X : Cx} {l : Launch} (h0 : Init X) {a : Nat} (ha : X.z ≤ a) : MM X l yX2_init cX2_init 2 none 3 60 208 1341 [.ref a] (fun H => H.size = a + 1 ∧ Bk X a (a + 1) [(a, .inr (1, [.int 0, .int 0, .null]))] H) (fun v H => v = none ∧ H.size = a + 209 ∧ Bp X a H) (fun q => a ≤ q) := by
  refine Met.mkI (Bh := (fun H => H.size = a + 1 ∧ Bk X a (a + 1) [(a, .inr (1, [.int 0, .int 0, .null]))] H)) (by decide) (Nat.le_of_ble_eq_true rfl) ?_
  intro p e s m below meth c ls hF hnm0 hB hl
  obtain ⟨hz, hT⟩ := hB
  have hl : lv_has ls 2 [(0, .ref a)] := hl
  obtain ⟨hx, hb, hml, hr, hlk, hown, hG⟩ := id hF
  have hK := hG.K h0
  have hAo : ∀ q, q < X.z → ¬ (fun q => a ≤ q) q := fun q h1 (h2 : a ≤ q) => by omega
  have hS : va_S (fun q => a ≤ q) s.heap s.heap [] := va_S.rf
  refine lv_aload_n hx hb dX2_init_0 rfl (lv_at hl 0 rfl) ?_
  refine g_obj h0 hF wm_X2_3 ⟨Nat.le_of_ble_eq_true rfl, Nat.le_of_ble_eq_true rfl⟩ hl.1 (Nat.le_of_ble_eq_true rfl) dX2_init_1 ?_
  refine lv_aload_n hx hb dX2_init_4 rfl (lv_at hl 0 rfl) ?_
  refine lv_bipush (v := 9) hx hb dX2_init_5 (by decide) ?_
  refine g_newq h0 hF hS wk_X2_9 9 (by decide) (by decide) (Nat.le_of_ble_eq_true rfl) (Nat.le_of_ble_eq_true rfl) (Nat.le_of_ble_eq_true rfl) dX2_init_7 hz (fun H hAr hz1 ho hS => ?_)
  have hT := hT.old ho
  clear ho; have hz := hz1; clear hz1
  refine g_putF h0 hF hnm0 inX2 tyX2 tyX2_ok nmX2 hT hS (by show a ≤ _; omega) (C := RX2) (T := TX2) (N := 3) rfl 2 (by decide) wf_X2_11 rfl rfl rfl (tyX2_ok 2 (by decide)) rfl rfl (Nat.le_of_ble_eq_true rfl) dX2_init_10 (fun H locs hT hz1 oq hS => ?_)
  have hAr := hAr.fr1 oq (by omega)
  have hT : Bk X a (a + 1) [(a, .inr (1, [.int 0, .int 0, .ref (a + 1)]))] H := hT
  have hz := hz1.trans hz; clear hz1 oq
  refine lv_iconst (v := 0) hx hb dX2_init_13 (by decide) ?_
  refine lv_istore_n (lv' := [(1, .int 0), (0, .ref a)]) hx hb dX2_init_14 rfl hl (by decide) rfl (fun ls hl => ?_)
  have key : ∀ (nf j : Nat), j + nf = 9 → ∀ (H : Heap) (locs : List Loc), H.size = a + 2 + 23 * j → Bk X a (a + 1) [(a, .inr (1, [.int 0, .int 0, .ref (a + 1)]))] H → Bk X (a + 1) (a + 2) [(a + 1, .inl (X.cS, 9, .inr (.inr (.inr (.inr (paF a j))))))] H → (∀ i, i < j → Bk X (a + 2 + 23 * i) (a + 2 + 23 * i + 23) (skW X (fS (a + 2 + 23 * i)) k00) H) → va_S (fun q => a ≤ q) s.heap H locs → ∀ (ls : Array Slot), lv_has ls 2 [(0, .ref a), (1, .int (nI j))] → W p l e ({ frames := 3, cells := 208, slots := 1341, locals := 60 } : Room) s m ([.ref a] : List Value).toArray below meth c H locs (1 + 23 * j) (9 + 148 * j) (MQ below (qM (fun v H => v = none ∧ H.size = a + 209 ∧ Bp X a H) (fun q => a ≤ q)) ([.ref a] : List Value).toArray s 208 1341 (fun q => a ≤ q)) (F0 m 15 ls []) := by
    intro nf; induction nf with
    | zero =>
      intro j hj H locs hz hT hAr hsk hS ls hl
      obtain rfl : j = 9 := by omega
      refine lv_iload_n hx hb dX2_init_15 rfl (lv_at hl 1 rfl) ?_
      refine lv_bipush (v := 9) hx hb dX2_init_16 (by decide) ?_
      refine lv_icmp_ge (tgt := 40) hx hb dX2_init_18 (by decide) (fun _ => ?_) (fun c9 => absurd (show (9 : Int32) ≤ nI 9 from by decide) c9)
      exact mm_vret hF hS dX2_init_40 ⟨rfl, hz, hT, hAr, hsk⟩
    | succ nf ih =>
      intro j hj H locs hz hT hAr hsk hS ls hl
      have hj9 : j < 9 := by omega
      refine lv_iload_n hx hb dX2_init_15 rfl (lv_at hl 1 rfl) ?_
      refine lv_bipush (v := 9) hx hb dX2_init_16 (by decide) ?_
      refine lv_icmp_ge (tgt := 40) hx hb dX2_init_18 (by decide) (fun c9 => absurd c9 (nI_ge (a := j) (b := 9) (by omega) (by omega))) (fun _ => ?_)
      refine lv_aload_n hx hb dX2_init_21 rfl (lv_at hl 0 rfl) ?_
      refine g_get (ci := 1) (v := .ref (a + 1)) h0 hF inX2 hT.1 0 rfl rfl 2 (by decide) wf_X2_11 rfl rfl dX2_init_22 ?_
      refine lv_iload_n hx hb dX2_init_25 rfl (lv_at hl 1 rfl) ?_
      refine g_new h0 hF inX5 tyX5 tyX5_ok wk_X2_9 wi_X5 wz_X5 hS (ci := 4) rfl [.null, .null, .null, .int 0, .int 0] (by decide) (by show 1 + 23 * j + 1 ≤ 208; omega) (by show 9 + 148 * j + 5 ≤ 1341; omega) dX2_init_26 hz (fun H hN hz1 ho hS => ?_)
      have hT := hT.old ho
      have hAr := hAr.old ho
      have hsk := fun i (hi : i < j) => (hsk i hi).old ho
      clear ho; have hz := hz1; clear hz1
      refine lv_dup hx hb dX2_init_29 rfl ?_
      refine core_m (A1 := fun q => a + 2 + 23 * j ≤ q) (grIN (Bh := fun H => H.size = a + 2 + 23 * j + 1 ∧ Bk X (a + 2 + 23 * j) (a + 2 + 23 * j + 1) [(a + 2 + 23 * j, .inr (4, [.null, .null, .null, .int 0, .int 0]))] H) (n := 0) (As := []) (rest := [.ref (a + 2 + 23 * j), .int (nI j), .ref (a + 1)]) h0 hF (m_X5_init h0 (a := a + 2 + 23 * j) (by omega)) wmn_X2_17 wo_X5_init wz_X5 wc_X5_init rfl ⟨by decide, by decide, by decide +kernel⟩ rfl ⟨Nat.le_of_ble_eq_true rfl, Nat.le_of_ble_eq_true rfl⟩ ⟨hz, hN⟩ hS hAo ⟨by show 1 + 23 * j + 1 + 22 ≤ 208; omega, by show 9 + 148 * j + 5 + 143 ≤ 1341; omega⟩ hl.1 rfl (Nat.le_of_ble_eq_true rfl) dX2_init_30) hS (fun q (h8 : a + 2 + 23 * j ≤ q) => (show a ≤ q from by omega)) (fun v' H locs hq hz1 hk1 hS => ?_)
      have hT := hT.keep hk1 (fun q h9 h7 (h8 : a + 2 + 23 * j ≤ q) => by omega)
      have hAr := hAr.keep hk1 (fun q h9 h7 (h8 : a + 2 + 23 * j ≤ q) => by omega)
      have hsk := fun i (hi : i < j) => (hsk i hi).keep hk1 (fun q h9 h7 (h8 : a + 2 + 23 * j ≤ q) => by omega)
      clear hz hk1 hz1; obtain ⟨rfl, hz, hN⟩ := hq
      refine g_astq h0 hF (j := j) hAr (hN.1 0 _ rfl) hS (by show a ≤ _; omega) hj9 (by decide) dX2_init_33 (fun H locs hAr hz1 oq hS => ?_)
      have hT := hT.fr1 oq (by omega)
      have hsk := fun i (hi : i < j) => (hsk i hi).fr1 oq (by omega)
      have hN := hN.fr1 oq (by omega)
      have hz := hz1.trans hz; clear hz1 oq
      refine lv_iinc (v := nI (j + 1)) (lv' := [(1, .int (nI (j + 1))), (0, .ref a)]) hx hb dX2_init_34 hl (k := 1) rfl (nI_1 j) (by decide) rfl (fun ls hl => ?_)
      refine lv_goto (tgt := 15) hx hb dX2_init_37 (by decide) ?_
      have eF : va_up (paF a j) j (some (a + 2 + 23 * j)) = paF a (j + 1) := by
        funext i
        unfold va_up paF
        by_cases h1 : i = j
        · subst h1; rw [if_pos rfl, if_pos (Nat.lt_succ_self _)]
        · rw [if_neg h1]
          by_cases h2 : i < j
          · rw [if_pos h2, if_pos (by omega)]
          · rw [if_neg h2, if_neg (by omega)]
      rw [eF] at hAr
      refine W.widen (k := 1 + 23 * (j + 1)) (n := 9 + 148 * (j + 1)) (by show 1 + 23 * j + 1 + 22 ≤ _; omega) (by show 9 + 148 * j + 5 + 143 ≤ _; omega) ?_
      refine ih (j + 1) (by omega) H locs (by omega) hT hAr (fun i hi => ?_) hS ls (lv_sub hl [1, 0] rfl)
      by_cases h1 : i = j
      · subst h1; exact hN
      · exact hsk i (by omega)
  exact key 9 0 rfl H locs hz hT hAr (fun i hi => by omega) hS ls (lv_sub hl [1, 0] rfl)

/-- a new object's cells -/
def SB0 (X : Cx) (cm : Nat → Nat) (a : Nat) (H : Heap) : Prop := Bk X a (a + 1) [(a, .inr (8, [.ref (a + 1), .ref (a + 24), .ref (a + 47), .ref (a + 256), .ref (a + 257), .ref (a + 259), .ref (a + 261), .int 0, .int (-4)]))] H ∧ Bk X (a + 1) (a + 24) (skW X (fS (a + 1)) k00) H ∧ Bk X (a + 24) (a + 47) (skW X (fS (a + 24)) k00) H ∧ Bp X (a + 47) H ∧ Bk X (a + 256) (a + 257) (reW (a + 256) (fun _ => -4)) H ∧ Bk X (a + 257) (a + 259) (ceX8 X cm (a + 257)) H ∧ Bk X (a + 259) (a + 261) (bfW X (a + 259) (a + 259 + 1) 0 0 16 (fun _ => 0)) H ∧ Bk X (a + 261) (a + 263) (bfW X (a + 261) (a + 261 + 1) 0 0 16 (fun _ => 0)) H

set_option maxHeartbeats 4000000 in
set_option maxRecDepth 100000 in
theorem m_X9_init {X : Cx} {l : Launch} (h0 : Init X) {a : Nat} (ha : X.z ≤ a) {cm : Nat → Nat} {sm : Nat} (hC : StC X cm sm) : MM X l yX9_init cX9_init 1 none 4 81 262 1690 [.ref a] (fun H => H.size = a + 1 ∧ Bk X a (a + 1) [(a, .inr (8, [.null, .null, .null, .null, .null, .null, .null, .int 0, .int 0]))] H) (fun v H => v = none ∧ H.size = a + 263 ∧ SB0 X cm a H) (fun q => a ≤ q) := by
  refine Met.mkI (Bh := (fun H => H.size = a + 1 ∧ Bk X a (a + 1) [(a, .inr (8, [.null, .null, .null, .null, .null, .null, .null, .int 0, .int 0]))] H)) (by decide) (Nat.le_of_ble_eq_true rfl) ?_
  intro p e s m below meth c ls hF hnm0 hB hl
  obtain ⟨hz, hT⟩ := hB
  have hl : lv_has ls 1 [(0, .ref a)] := hl
  obtain ⟨hx, hb, hml, hr, hlk, hown, hG⟩ := id hF
  have hK := hG.K h0
  have hAo : ∀ q, q < X.z → ¬ (fun q => a ≤ q) q := fun q h1 (h2 : a ≤ q) => by omega
  have hS : va_S (fun q => a ≤ q) s.heap s.heap [] := va_S.rf
  refine lv_aload_n hx hb dX9_init_0 rfl (lv_at hl 0 rfl) ?_
  refine g_obj h0 hF wm_X9_3 ⟨Nat.le_of_ble_eq_true rfl, Nat.le_of_ble_eq_true rfl⟩ hl.1 (Nat.le_of_ble_eq_true rfl) dX9_init_1 ?_
  refine lv_aload_n hx hb dX9_init_4 rfl (lv_at hl 0 rfl) ?_
  refine g_new h0 hF inX5 tyX5 tyX5_ok wk_X9_9 wi_X5 wz_X5 hS (ci := 4) rfl [.null, .null, .null, .int 0, .int 0] (by decide) (Nat.le_of_ble_eq_true rfl) (Nat.le_of_ble_eq_true rfl) dX9_init_5 hz (fun H h1_5 hz1 ho hS => ?_)
  have hT := hT.old ho
  clear ho hz; have hz : H.size = a + 2 := by omega
  clear hz1
  refine lv_dup hx hb dX9_init_8 rfl ?_
  refine core_m (A1 := fun q => a + 1 ≤ q) (grIN (Bh := fun H => H.size = a + 1 + 1 ∧ Bk X (a + 1) (a + 1 + 1) [(a + 1, .inr (4, [.null, .null, .null, .int 0, .int 0]))] H) (n := 0) (As := []) (rest := [.ref (a + 1), .ref a]) h0 hF (m_X5_init h0 (a := a + 1) (by omega)) wmn_X9_11 wo_X5_init wz_X5 wc_X5_init rfl ⟨by decide, by decide, by decide +kernel⟩ rfl ⟨Nat.le_of_ble_eq_true rfl, Nat.le_of_ble_eq_true rfl⟩ ⟨hz, h1_5⟩ hS hAo ⟨Nat.le_of_ble_eq_true rfl, Nat.le_of_ble_eq_true rfl⟩ hl.1 rfl (Nat.le_of_ble_eq_true rfl) dX9_init_9) hS (fun q (h8 : a + 1 ≤ q) => (show a ≤ q from by omega)) (fun v' H locs hq hz1 hk1 hS => ?_)
  have hT := hT.keep hk1 (fun q h9 h7 (h8 : a + 1 ≤ q) => by omega)
  clear hz hk1 hz1; obtain ⟨rfl, hz, h1_5⟩ := hq
  have hz : H.size = a + 24 := by omega
  have h1_5 : Bk X (a + 1) (a + 24) (skW X (fS (a + 1)) k00) H := h1_5.wk (by omega)
  refine g_putF h0 hF hnm0 inX9 tyX9 tyX9_ok nmX9 hT hS (by show a ≤ _; omega) (C := RX9) (T := TX9) (N := 9) rfl 0 (by decide) wf_X9_12 rfl rfl rfl (tyX9_ok 0 (by decide)) rfl rfl (Nat.le_of_ble_eq_true rfl) dX9_init_12 (fun H locs hT hz1 oq hS => ?_)
  have h1_5 := h1_5.fr1 oq (by omega)
  have hT : Bk X a (a + 1) [(a, .inr (8, [.ref (a + 1), .null, .null, .null, .null, .null, .null, .int 0, .int 0]))] H := hT
  have hz := hz1.trans hz; clear hz1 oq
  refine lv_aload_n hx hb dX9_init_15 rfl (lv_at hl 0 rfl) ?_
  refine g_new h0 hF inX5 tyX5 tyX5_ok wk_X9_9 wi_X5 wz_X5 hS (ci := 4) rfl [.null, .null, .null, .int 0, .int 0] (by decide) (Nat.le_of_ble_eq_true rfl) (Nat.le_of_ble_eq_true rfl) dX9_init_16 hz (fun H h24_16 hz1 ho hS => ?_)
  have hT := hT.old ho
  have h1_5 := h1_5.old ho
  clear ho hz; have hz : H.size = a + 25 := by omega
  clear hz1
  refine lv_dup hx hb dX9_init_19 rfl ?_
  refine core_m (A1 := fun q => a + 24 ≤ q) (grIN (Bh := fun H => H.size = a + 24 + 1 ∧ Bk X (a + 24) (a + 24 + 1) [(a + 24, .inr (4, [.null, .null, .null, .int 0, .int 0]))] H) (n := 0) (As := []) (rest := [.ref (a + 24), .ref a]) h0 hF (m_X5_init h0 (a := a + 24) (by omega)) wmn_X9_11 wo_X5_init wz_X5 wc_X5_init rfl ⟨by decide, by decide, by decide +kernel⟩ rfl ⟨Nat.le_of_ble_eq_true rfl, Nat.le_of_ble_eq_true rfl⟩ ⟨hz, h24_16⟩ hS hAo ⟨Nat.le_of_ble_eq_true rfl, Nat.le_of_ble_eq_true rfl⟩ hl.1 rfl (Nat.le_of_ble_eq_true rfl) dX9_init_20) hS (fun q (h8 : a + 24 ≤ q) => (show a ≤ q from by omega)) (fun v' H locs hq hz1 hk1 hS => ?_)
  have hT := hT.keep hk1 (fun q h9 h7 (h8 : a + 24 ≤ q) => by omega)
  have h1_5 := h1_5.keep hk1 (fun q h9 h7 (h8 : a + 24 ≤ q) => by omega)
  clear hz hk1 hz1; obtain ⟨rfl, hz, h24_16⟩ := hq
  have hz : H.size = a + 47 := by omega
  have h24_16 : Bk X (a + 24) (a + 47) (skW X (fS (a + 24)) k00) H := h24_16.wk (by omega)
  refine g_putF h0 hF hnm0 inX9 tyX9 tyX9_ok nmX9 hT hS (by show a ≤ _; omega) (C := RX9) (T := TX9) (N := 9) rfl 1 (by decide) wf_X9_16 rfl rfl rfl (tyX9_ok 1 (by decide)) rfl rfl (Nat.le_of_ble_eq_true rfl) dX9_init_23 (fun H locs hT hz1 oq hS => ?_)
  have h1_5 := h1_5.fr1 oq (by omega)
  have h24_16 := h24_16.fr1 oq (by omega)
  have hT : Bk X a (a + 1) [(a, .inr (8, [.ref (a + 1), .ref (a + 24), .null, .null, .null, .null, .null, .int 0, .int 0]))] H := hT
  have hz := hz1.trans hz; clear hz1 oq
  refine lv_aload_n hx hb dX9_init_26 rfl (lv_at hl 0 rfl) ?_
  refine g_new h0 hF inX2 tyX2 tyX2_ok wk_X9_19 wi_X2 wz_X2 hS (ci := 1) rfl [.int 0, .int 0, .null] (by decide) (Nat.le_of_ble_eq_true rfl) (Nat.le_of_ble_eq_true rfl) dX9_init_27 hz (fun H h47_27 hz1 ho hS => ?_)
  have hT := hT.old ho
  have h1_5 := h1_5.old ho
  have h24_16 := h24_16.old ho
  clear ho hz; have hz : H.size = a + 48 := by omega
  clear hz1
  refine lv_dup hx hb dX9_init_30 rfl ?_
  refine core_m (A1 := fun q => a + 47 ≤ q) (grI (Bh := fun H => H.size = a + 47 + 1 ∧ Bk X (a + 47) (a + 47 + 1) [(a + 47, .inr (1, [.int 0, .int 0, .null]))] H) (n := 0) (As := []) (rest := [.ref (a + 47), .ref a]) h0 hF (m_X2_init h0 (a := a + 47) (by omega)) wm_X9_21 wo_X2_init wz_X2 wc_X2_init rfl ⟨by decide, by decide, by decide +kernel⟩ rfl ⟨Nat.le_of_ble_eq_true rfl, Nat.le_of_ble_eq_true rfl⟩ ⟨hz, h47_27⟩ hS hAo ⟨Nat.le_of_ble_eq_true rfl, Nat.le_of_ble_eq_true rfl⟩ hl.1 rfl (Nat.le_of_ble_eq_true rfl) dX9_init_31) hS (fun q (h8 : a + 47 ≤ q) => (show a ≤ q from by omega)) (fun v' H locs hq hz1 hk1 hS => ?_)
  have hT := hT.keep hk1 (fun q h9 h7 (h8 : a + 47 ≤ q) => by omega)
  have h1_5 := h1_5.keep hk1 (fun q h9 h7 (h8 : a + 47 ≤ q) => by omega)
  have h24_16 := h24_16.keep hk1 (fun q h9 h7 (h8 : a + 47 ≤ q) => by omega)
  clear hz hk1 hz1; obtain ⟨rfl, hz, h47_27⟩ := hq
  have hz : H.size = a + 256 := by omega
  refine g_putF h0 hF hnm0 inX9 tyX9 tyX9_ok nmX9 hT hS (by show a ≤ _; omega) (C := RX9) (T := TX9) (N := 9) rfl 2 (by decide) wf_X9_22 rfl rfl rfl (tyX9_ok 2 (by decide)) rfl rfl (Nat.le_of_ble_eq_true rfl) dX9_init_34 (fun H locs hT hz1 oq hS => ?_)
  have h1_5 := h1_5.fr1 oq (by omega)
  have h24_16 := h24_16.fr1 oq (by omega)
  have h47_27 := h47_27.fr1 oq (by omega)
  have hT : Bk X a (a + 1) [(a, .inr (8, [.ref (a + 1), .ref (a + 24), .ref (a + 47), .null, .null, .null, .null, .int 0, .int 0]))] H := hT
  have hz := hz1.trans hz; clear hz1 oq
  refine lv_aload_n hx hb dX9_init_37 rfl (lv_at hl 0 rfl) ?_
  refine g_new h0 hF inX3 tyX3 tyX3_ok wk_X9_26 wi_X3 wz_X3 hS (ci := 2) rfl [.int 0, .int 0, .int 0, .int 0] (by decide) (Nat.le_of_ble_eq_true rfl) (Nat.le_of_ble_eq_true rfl) dX9_init_38 hz (fun H h256_38 hz1 ho hS => ?_)
  have hT := hT.old ho
  have h1_5 := h1_5.old ho
  have h24_16 := h24_16.old ho
  have h47_27 := h47_27.old ho
  clear ho hz; have hz : H.size = a + 257 := by omega
  clear hz1
  refine lv_dup hx hb dX9_init_41 rfl ?_
  refine core_m (A1 := fun q => a + 256 ≤ q) (grIN (Bh := fun H => H.size = a + 256 + 1 ∧ Bk X (a + 256) (a + 256 + 1) [(a + 256, .inr (2, [.int 0, .int 0, .int 0, .int 0]))] H) (n := 0) (As := []) (rest := [.ref (a + 256), .ref a]) h0 hF (m_X3_init h0 (a := a + 256) (by omega)) wmn_X9_28 wo_X3_init wz_X3 wc_X3_init rfl ⟨by decide, by decide, by decide +kernel⟩ rfl ⟨Nat.le_of_ble_eq_true rfl, Nat.le_of_ble_eq_true rfl⟩ ⟨hz, h256_38⟩ hS hAo ⟨Nat.le_of_ble_eq_true rfl, Nat.le_of_ble_eq_true rfl⟩ hl.1 rfl (Nat.le_of_ble_eq_true rfl) dX9_init_42) hS (fun q (h8 : a + 256 ≤ q) => (show a ≤ q from by omega)) (fun v' H locs hq hz1 hk1 hS => ?_)
  have hT := hT.keep hk1 (fun q h9 h7 (h8 : a + 256 ≤ q) => by omega)
  have h1_5 := h1_5.keep hk1 (fun q h9 h7 (h8 : a + 256 ≤ q) => by omega)
  have h24_16 := h24_16.keep hk1 (fun q h9 h7 (h8 : a + 256 ≤ q) => by omega)
  have h47_27 := h47_27.keep hk1 (fun q h9 h7 (h8 : a + 256 ≤ q) => by omega)
  clear hz hk1 hz1; obtain ⟨rfl, hz, h256_38⟩ := hq
  have hz : H.size = a + 257 := by omega
  have h256_38 : Bk X (a + 256) (a + 257) (reW (a + 256) (fun _ => -4)) H := h256_38.wk (by omega)
  refine g_putF h0 hF hnm0 inX9 tyX9 tyX9_ok nmX9 hT hS (by show a ≤ _; omega) (C := RX9) (T := TX9) (N := 9) rfl 3 (by decide) wf_X9_29 rfl rfl rfl (tyX9_ok 3 (by decide)) rfl rfl (Nat.le_of_ble_eq_true rfl) dX9_init_45 (fun H locs hT hz1 oq hS => ?_)
  have h1_5 := h1_5.fr1 oq (by omega)
  have h24_16 := h24_16.fr1 oq (by omega)
  have h47_27 := h47_27.fr1 oq (by omega)
  have h256_38 := h256_38.fr1 oq (by omega)
  have hT : Bk X a (a + 1) [(a, .inr (8, [.ref (a + 1), .ref (a + 24), .ref (a + 47), .ref (a + 256), .null, .null, .null, .int 0, .int 0]))] H := hT
  have hz := hz1.trans hz; clear hz1 oq
  refine lv_aload_n hx hb dX9_init_48 rfl (lv_at hl 0 rfl) ?_
  refine g_new h0 hF inX8 tyX8 tyX8_ok wk_X9_33 wi_X8 wz_X8 hS (ci := 7) rfl [.null, .int 0, .null] (by decide) (Nat.le_of_ble_eq_true rfl) (Nat.le_of_ble_eq_true rfl) dX9_init_49 hz (fun H h257_49 hz1 ho hS => ?_)
  have hT := hT.old ho
  have h1_5 := h1_5.old ho
  have h24_16 := h24_16.old ho
  have h47_27 := h47_27.old ho
  have h256_38 := h256_38.old ho
  clear ho hz; have hz : H.size = a + 258 := by omega
  clear hz1
  refine lv_dup hx hb dX9_init_52 rfl ?_
  refine core_m (A1 := fun q => a + 257 ≤ q) (grIN (Bh := fun H => H.size = a + 257 + 1 ∧ Bk X (a + 257) (a + 257 + 1) [(a + 257, .inr (7, [.null, .int 0, .null]))] H) (n := 0) (As := []) (rest := [.ref (a + 257), .ref a]) h0 hF (m_X8_init h0 (a := a + 257) (by omega) hC) wmn_X9_35 wo_X8_init wz_X8 wc_X8_init rfl ⟨by decide, by decide, by decide +kernel⟩ rfl ⟨Nat.le_of_ble_eq_true rfl, Nat.le_of_ble_eq_true rfl⟩ ⟨hz, h257_49⟩ hS hAo ⟨Nat.le_of_ble_eq_true rfl, Nat.le_of_ble_eq_true rfl⟩ hl.1 rfl (Nat.le_of_ble_eq_true rfl) dX9_init_53) hS (fun q (h8 : a + 257 ≤ q) => (show a ≤ q from by omega)) (fun v' H locs hq hz1 hk1 hS => ?_)
  have hT := hT.keep hk1 (fun q h9 h7 (h8 : a + 257 ≤ q) => by omega)
  have h1_5 := h1_5.keep hk1 (fun q h9 h7 (h8 : a + 257 ≤ q) => by omega)
  have h24_16 := h24_16.keep hk1 (fun q h9 h7 (h8 : a + 257 ≤ q) => by omega)
  have h47_27 := h47_27.keep hk1 (fun q h9 h7 (h8 : a + 257 ≤ q) => by omega)
  have h256_38 := h256_38.keep hk1 (fun q h9 h7 (h8 : a + 257 ≤ q) => by omega)
  clear hz hk1 hz1; obtain ⟨rfl, hz, h257_49⟩ := hq
  have hz : H.size = a + 259 := by omega
  have h257_49 : Bk X (a + 257) (a + 259) (ceX8 X cm (a + 257)) H := h257_49.wk (by omega)
  refine g_putF h0 hF hnm0 inX9 tyX9 tyX9_ok nmX9 hT hS (by show a ≤ _; omega) (C := RX9) (T := TX9) (N := 9) rfl 4 (by decide) wf_X9_36 rfl rfl rfl (tyX9_ok 4 (by decide)) rfl rfl (Nat.le_of_ble_eq_true rfl) dX9_init_56 (fun H locs hT hz1 oq hS => ?_)
  have h1_5 := h1_5.fr1 oq (by omega)
  have h24_16 := h24_16.fr1 oq (by omega)
  have h47_27 := h47_27.fr1 oq (by omega)
  have h256_38 := h256_38.fr1 oq (by omega)
  have h257_49 := h257_49.fr1 oq (by omega)
  have hT : Bk X a (a + 1) [(a, .inr (8, [.ref (a + 1), .ref (a + 24), .ref (a + 47), .ref (a + 256), .ref (a + 257), .null, .null, .int 0, .int 0]))] H := hT
  have hz := hz1.trans hz; clear hz1 oq
  refine lv_aload_n hx hb dX9_init_59 rfl (lv_at hl 0 rfl) ?_
  refine g_new h0 hF inJ4 tyJ4 tyJ4_ok wk_X9_40 wi_J4 wz_J4 hS (ci := 0) rfl [.null, .int 0, .int 0, .int 0] (by decide) (Nat.le_of_ble_eq_true rfl) (Nat.le_of_ble_eq_true rfl) dX9_init_60 hz (fun H h259_60 hz1 ho hS => ?_)
  have hT := hT.old ho
  have h1_5 := h1_5.old ho
  have h24_16 := h24_16.old ho
  have h47_27 := h47_27.old ho
  have h256_38 := h256_38.old ho
  have h257_49 := h257_49.old ho
  clear ho hz; have hz : H.size = a + 260 := by omega
  clear hz1
  refine lv_dup hx hb dX9_init_63 rfl ?_
  refine core_m (A1 := fun q => a + 259 ≤ q) (grI (Bh := fun H => H.size = a + 259 + 1 ∧ Bk X (a + 259) (a + 259 + 1) [(a + 259, .inr (0, [.null, .int 0, .int 0, .int 0]))] H) (n := 0) (As := []) (rest := [.ref (a + 259), .ref a]) h0 hF (m_J4_init_da8c8 h0 (a := a + 259) (by omega)) wm_X9_42 wo_J4_init_da8c8 wz_J4 wc_J4_init_da8c8 rfl ⟨by decide, by decide, by decide +kernel⟩ rfl ⟨Nat.le_of_ble_eq_true rfl, Nat.le_of_ble_eq_true rfl⟩ ⟨hz, h259_60⟩ hS hAo ⟨Nat.le_of_ble_eq_true rfl, Nat.le_of_ble_eq_true rfl⟩ hl.1 rfl (Nat.le_of_ble_eq_true rfl) dX9_init_64) hS (fun q (h8 : a + 259 ≤ q) => (show a ≤ q from by omega)) (fun v' H locs hq hz1 hk1 hS => ?_)
  have hT := hT.keep hk1 (fun q h9 h7 (h8 : a + 259 ≤ q) => by omega)
  have h1_5 := h1_5.keep hk1 (fun q h9 h7 (h8 : a + 259 ≤ q) => by omega)
  have h24_16 := h24_16.keep hk1 (fun q h9 h7 (h8 : a + 259 ≤ q) => by omega)
  have h47_27 := h47_27.keep hk1 (fun q h9 h7 (h8 : a + 259 ≤ q) => by omega)
  have h256_38 := h256_38.keep hk1 (fun q h9 h7 (h8 : a + 259 ≤ q) => by omega)
  have h257_49 := h257_49.keep hk1 (fun q h9 h7 (h8 : a + 259 ≤ q) => by omega)
  clear hz hk1 hz1; obtain ⟨rfl, hz, h259_60⟩ := hq
  have hz : H.size = a + 261 := by omega
  have h259_60 : Bk X (a + 259) (a + 261) (bfW X (a + 259) (a + 259 + 1) 0 0 16 (fun _ => 0)) H := h259_60.wk (by omega)
  refine g_putF h0 hF hnm0 inX9 tyX9 tyX9_ok nmX9 hT hS (by show a ≤ _; omega) (C := RX9) (T := TX9) (N := 9) rfl 5 (by decide) wf_X9_43 rfl rfl rfl (tyX9_ok 5 (by decide)) rfl rfl (Nat.le_of_ble_eq_true rfl) dX9_init_67 (fun H locs hT hz1 oq hS => ?_)
  have h1_5 := h1_5.fr1 oq (by omega)
  have h24_16 := h24_16.fr1 oq (by omega)
  have h47_27 := h47_27.fr1 oq (by omega)
  have h256_38 := h256_38.fr1 oq (by omega)
  have h257_49 := h257_49.fr1 oq (by omega)
  have h259_60 := h259_60.fr1 oq (by omega)
  have hT : Bk X a (a + 1) [(a, .inr (8, [.ref (a + 1), .ref (a + 24), .ref (a + 47), .ref (a + 256), .ref (a + 257), .ref (a + 259), .null, .int 0, .int 0]))] H := hT
  have hz := hz1.trans hz; clear hz1 oq
  refine lv_aload_n hx hb dX9_init_70 rfl (lv_at hl 0 rfl) ?_
  refine g_new h0 hF inJ4 tyJ4 tyJ4_ok wk_X9_40 wi_J4 wz_J4 hS (ci := 0) rfl [.null, .int 0, .int 0, .int 0] (by decide) (Nat.le_of_ble_eq_true rfl) (Nat.le_of_ble_eq_true rfl) dX9_init_71 hz (fun H h261_71 hz1 ho hS => ?_)
  have hT := hT.old ho
  have h1_5 := h1_5.old ho
  have h24_16 := h24_16.old ho
  have h47_27 := h47_27.old ho
  have h256_38 := h256_38.old ho
  have h257_49 := h257_49.old ho
  have h259_60 := h259_60.old ho
  clear ho hz; have hz : H.size = a + 262 := by omega
  clear hz1
  refine lv_dup hx hb dX9_init_74 rfl ?_
  refine core_m (A1 := fun q => a + 261 ≤ q) (grI (Bh := fun H => H.size = a + 261 + 1 ∧ Bk X (a + 261) (a + 261 + 1) [(a + 261, .inr (0, [.null, .int 0, .int 0, .int 0]))] H) (n := 0) (As := []) (rest := [.ref (a + 261), .ref a]) h0 hF (m_J4_init_da8c8 h0 (a := a + 261) (by omega)) wm_X9_42 wo_J4_init_da8c8 wz_J4 wc_J4_init_da8c8 rfl ⟨by decide, by decide, by decide +kernel⟩ rfl ⟨Nat.le_of_ble_eq_true rfl, Nat.le_of_ble_eq_true rfl⟩ ⟨hz, h261_71⟩ hS hAo ⟨Nat.le_of_ble_eq_true rfl, Nat.le_of_ble_eq_true rfl⟩ hl.1 rfl (Nat.le_of_ble_eq_true rfl) dX9_init_75) hS (fun q (h8 : a + 261 ≤ q) => (show a ≤ q from by omega)) (fun v' H locs hq hz1 hk1 hS => ?_)
  have hT := hT.keep hk1 (fun q h9 h7 (h8 : a + 261 ≤ q) => by omega)
  have h1_5 := h1_5.keep hk1 (fun q h9 h7 (h8 : a + 261 ≤ q) => by omega)
  have h24_16 := h24_16.keep hk1 (fun q h9 h7 (h8 : a + 261 ≤ q) => by omega)
  have h47_27 := h47_27.keep hk1 (fun q h9 h7 (h8 : a + 261 ≤ q) => by omega)
  have h256_38 := h256_38.keep hk1 (fun q h9 h7 (h8 : a + 261 ≤ q) => by omega)
  have h257_49 := h257_49.keep hk1 (fun q h9 h7 (h8 : a + 261 ≤ q) => by omega)
  have h259_60 := h259_60.keep hk1 (fun q h9 h7 (h8 : a + 261 ≤ q) => by omega)
  clear hz hk1 hz1; obtain ⟨rfl, hz, h261_71⟩ := hq
  have hz : H.size = a + 263 := by omega
  have h261_71 : Bk X (a + 261) (a + 263) (bfW X (a + 261) (a + 261 + 1) 0 0 16 (fun _ => 0)) H := h261_71.wk (by omega)
  refine g_putF h0 hF hnm0 inX9 tyX9 tyX9_ok nmX9 hT hS (by show a ≤ _; omega) (C := RX9) (T := TX9) (N := 9) rfl 6 (by decide) wf_X9_47 rfl rfl rfl (tyX9_ok 6 (by decide)) rfl rfl (Nat.le_of_ble_eq_true rfl) dX9_init_78 (fun H locs hT hz1 oq hS => ?_)
  have h1_5 := h1_5.fr1 oq (by omega)
  have h24_16 := h24_16.fr1 oq (by omega)
  have h47_27 := h47_27.fr1 oq (by omega)
  have h256_38 := h256_38.fr1 oq (by omega)
  have h257_49 := h257_49.fr1 oq (by omega)
  have h259_60 := h259_60.fr1 oq (by omega)
  have h261_71 := h261_71.fr1 oq (by omega)
  have hT : Bk X a (a + 1) [(a, .inr (8, [.ref (a + 1), .ref (a + 24), .ref (a + 47), .ref (a + 256), .ref (a + 257), .ref (a + 259), .ref (a + 261), .int 0, .int 0]))] H := hT
  have hz := hz1.trans hz; clear hz1 oq
  refine lv_aload_n hx hb dX9_init_81 rfl (lv_at hl 0 rfl) ?_
  refine lv_bipush (v := (-4)) hx hb dX9_init_82 (by decide) ?_
  refine g_putB h0 hF inX9 tyX9 tyX9_ok nmX9 hT hS (by show a ≤ _; omega) (C := RX9) (T := TX9) (N := 9) rfl 8 (by decide) wf_X9_50 rfl rfl (tyX9_ok 8 (by decide)) rfl rfl (Nat.le_of_ble_eq_true rfl) dX9_init_84 (fun H locs hT hz1 oq hS => ?_)
  have h1_5 := h1_5.fr1 oq (by omega)
  have h24_16 := h24_16.fr1 oq (by omega)
  have h47_27 := h47_27.fr1 oq (by omega)
  have h256_38 := h256_38.fr1 oq (by omega)
  have h257_49 := h257_49.fr1 oq (by omega)
  have h259_60 := h259_60.fr1 oq (by omega)
  have h261_71 := h261_71.fr1 oq (by omega)
  have hT : Bk X a (a + 1) [(a, .inr (8, [.ref (a + 1), .ref (a + 24), .ref (a + 47), .ref (a + 256), .ref (a + 257), .ref (a + 259), .ref (a + 261), .int 0, .int (-4)]))] H := hT
  have hz := hz1.trans hz; clear hz1 oq
  exact mm_vret hF hS dX9_init_87 ⟨rfl, hz, ⟨hT, h1_5, h24_16, h47_27, h256_38, h257_49, h259_60, h261_71⟩⟩

/-- the state of a new object -/
def sb0 : Sb := (k00, k00, fun _ => k00, fun _ => 0, fun _ => -4, fun _ => 0)
def owN (o : Nat) : Nat → Nat := fun q => if q < o then 100 else if q = o then 20 else if q < o + 24 then 0 else if q < o + 47 then 1 else if q < o + 49 then 21 else if q < o + 256 then 2 + (q - (o + 49)) / 23 else if q < o + 257 then 22 else if q < o + 259 then 23 else if q < o + 261 then 24 else if q < o + 263 then 25 else 100
def fN (o : Nat) : Nat → Nat → Nat := fun i => match i with
  | 0 => fS (o + 1)
  | 1 => fS (o + 24)
  | i + 2 => fS (o + 49 + 23 * i)
def gN (o : Nat) : Nat → Nat := fun i => match i with
  | 0 => o + 47
  | 1 => o + 256
  | 2 => o + 257
  | 3 => o + 259
  | 4 => o + 261
  | 5 => o + 48
  | _ => o + 258
theorem pmS_inj : ∀ i, i < 23 → ∀ j, j < 23 → pmS.getD i 0 = pmS.getD j 0 → i = j := by decide
theorem Bk.tw {X : Cx} {lo hi t : Nat} {ow : Nat → Nat} {ws : va_W} {H : Heap} (h : Bk X lo hi ws H) (hi0 : ∀ (i j : Nat) (p q : Nat × va_E), ws[i]? = some p → ws[j]? = some q → p.1 = q.1 → i = j) (ho : ∀ q, lo ≤ q → q < hi → ow q = t) : Tw X ow t ws H :=
  ⟨h.1, hi0, fun k q hk => ho _ (h.2 k q hk).1 (h.2 k q hk).2⟩
theorem inj_sk {X : Cx} {a : Nat} {k : Sk} (i j : Nat) (p q : Nat × va_E) (hp : (skW X (fS a) k)[i]? = some p) (hq : (skW X (fS a) k)[j]? = some q) (e : p.1 = q.1) : i = j := by
  have e1 : ((skW X (fS a) k).map Prod.fst)[i]? = some p.1 := by rw [List.getElem?_map, hp]; rfl
  have e3 : ((skW X (fS a) k).map Prod.fst)[j]? = some q.1 := by rw [List.getElem?_map, hq]; rfl
  have hi : i < 23 := (List.getElem?_eq_some_iff.mp hp).1
  have hj : j < 23 := (List.getElem?_eq_some_iff.mp hq).1
  have e2 : (skW X (fS a) k).map Prod.fst = (List.range 23).map (fS a) := rfl
  rw [e2, List.getElem?_map, List.getElem?_range hi] at e1
  rw [e2, List.getElem?_map, List.getElem?_range hj] at e3
  have e1 : fS a i = p.1 := Option.some.inj e1
  have e3 : fS a j = q.1 := Option.some.inj e3
  refine pmS_inj i hi j hj ?_
  rw [← e1, ← e3] at e
  unfold fS at e
  omega
theorem inj_1 {e : Nat × va_E} (i j : Nat) (p q : Nat × va_E) (hp : [e][i]? = some p) (hq : [e][j]? = some q) (_ : p.1 = q.1) : i = j := by
  match i, j, hp, hq with
  | 0, 0, _, _ => rfl
  | n + 1, _, hi, _ => simp at hi
  | 0, n + 1, _, hj => simp at hj
theorem inj_2 {a b : Nat} {e f : va_E} (hab : a ≠ b) (i j : Nat) (p q : Nat × va_E) (hp : [(a, e), (b, f)][i]? = some p) (hq : [(a, e), (b, f)][j]? = some q) (h : p.1 = q.1) : i = j := by
  match i, j, hp, hq with
  | 0, 0, _, _ => rfl
  | 1, 1, _, _ => rfl
  | 0, 1, hp, hq => cases hp; cases hq; exact absurd h hab
  | 1, 0, hp, hq => cases hp; cases hq; exact absurd h.symm hab
  | n + 2, _, hi, _ => simp at hi
  | 0, n + 2, _, hj => simp at hj
  | 1, n + 2, _, hj => simp at hj
theorem vp_cell_eqq (cA : ClassId) (n : Nat) {f g : Nat → Option Nat} (h : ∀ j, j < n → f j = g j) : vp_cell cA (n, .inr (.inr (.inr (.inr f)))) = vp_cell cA (n, .inr (.inr (.inr (.inr g)))) := by
  rw [vp_cell_q, vp_cell_q]
  unfold arrV
  congr 1
  refine Array.ext (by simp) ?_
  intro j h1 h2
  simp only [Array.getElem_ofFn]
  rw [h j (by simpa using h1)]
theorem bf_of {X : Cx} {ow : Nat → Nat} {t a : Nat} {co : Nat → Nat} {H : Heap} (h : Bk X a (a + 2) (bfW X a (a + 1) 0 0 16 (fun _ => 0)) H) (ho : ∀ q, a ≤ q → q < a + 2 → ow q = t) : bfH X ow t a 0 co H :=
  ⟨a + 1, 16, 0, fun _ => 0, h.tw (inj_2 (by omega)) ho, by decide, by decide, by decide, sb_fit0, fun j hj => absurd hj (Nat.not_lt_zero j), Or.inl rfl⟩
theorem SB0.sbh {X : Cx} {cm : Nat → Nat} {o : Nat} {H : Heap} (h : SB0 X cm o H) (ho : X.z ≤ o) : SBH X cm o sb0 H := by
  obtain ⟨h1, h2, h3, ⟨h4, h5, h6⟩, h7, h8, h9, h10⟩ := h
  refine ⟨owN o, fN o, gN o, fun q hq => ?_, h1.tw inj_1 (fun q h1 h2 => by unfold owN; (repeat' split) <;> omega), fun i hi => ?_, ?_, h7.tw inj_1 (fun q h1 h2 => by unfold owN; (repeat' split) <;> omega), ⟨11, 0, fun _ => 0, by decide, h8.tw (inj_2 (by omega)) (fun q h1 h2 => by unfold owN; (repeat' split) <;> omega)⟩, bf_of h9 (fun q h1 h2 => by simp only [gN] at h1 h2; unfold owN; (repeat' split) <;> omega), ⟨0, fun _ => 0, by decide, bf_of h10 (fun q h1 h2 => by simp only [gN] at h1 h2; unfold owN; (repeat' split) <;> omega)⟩, by decide⟩
  · unfold owN at hq; split at hq <;> omega
  · match i, hi with
    | 0, _ => exact h2.tw inj_sk (fun q h1 h2 => by unfold owN; (repeat' split) <;> omega)
    | 1, _ => exact h3.tw inj_sk (fun q h1 h2 => by unfold owN; (repeat' split) <;> omega)
    | i + 2, hi => exact (h6 i (by omega)).tw inj_sk (fun q h1 h2 => by unfold owN; (repeat' split) <;> omega)
  · have hA : Bk X (o + 48) (o + 49) [(o + 48, .inl (X.cS, 9, .inr (.inr (.inr (.inr (fun i => some (fN o (2 + i) 0))))))) ] H := by
      refine .one ?_
      show H[o + 48]? = some (vp_cell _ _)
      refine (show H[o + 48]? = some (vp_cell _ _) from h5.a1).trans (congrArg some (vp_cell_eqq _ _ (fun j hj => ?_)))
      unfold paF
      rw [if_pos hj, Nat.add_comm 2 j]
      rfl
    exact ((h4.app hA (by omega)).tw (inj_2 (by omega)) (fun q h1 h2 => by unfold owN; (repeat' split) <;> omega) : Tw X (owN o) 21 _ H)
