/-! the start: the tables' classes, and the law's walk -/
theorem ra_prim {s : State} {b : Nat} {ty : FieldType} (h : (Cond.arrayClass ty).before #[Value.ref b] s = true) (hty : ∀ C, ty ≠ .object C) : ∃ cA, ArrOfT s cA ty ∧ va_RA s cA ty := by
  obtain ⟨cA, kA, comp, h1, h2, h3⟩ := Cond.arrayClass_spec (args := #[Value.ref b]) (first := s) (o := none) (s := s) (idx := []) h
  refine ⟨cA, fun n z => ⟨fun k h => (by cases h), kA, h2, comp, h3⟩, ?_⟩
  cases ty with
  | object C => exact absurd rfl (hty C)
  | _ => exact h1
theorem ra_obj {s : State} {b : Nat} {C : String} (h : (Cond.arrayOver (.object C)).before #[Value.ref b] s = true) : ∃ cA, ArrOfT s cA (.object C) ∧ va_RA s cA (.object C) := by
  obtain ⟨comp, cA, kA, h1, h2, h3, h4, h5⟩ := Cond.arrayOver_spec (args := #[Value.ref b]) (first := s) (o := none) (s := s) (idx := []) h
  exact ⟨cA, fun n z => ⟨fun k h => (by cases h), kA, h3, comp, h4⟩, kA, comp, h3, h4, h1, h5⟩
theorem whole_start {p : Program} {e : Env} {s : State} {m : MethodId} {below : List Frame} {meth : Method} {c : Code} (l : Launch) (hflags : l.flags = flags0) {b L : Nat} {xs : Nat → Int32} (hL : L ≤ 260) (C0 : lw_At p s m meth c b L xs) : W p l e room_1 s m #[Value.ref b] below meth c s.heap [] 0 0 (lw_Z below #[Value.ref b] s) (entryFrame m ([Value.ref b] : List Value).toArray 10) := by
  obtain ⟨hx, hb, hr, hml, hown, hts, hX, hbl, hlocks, hgv⟩ := id C0
  have hg : ∀ w ∈ gTs, w.before #[Value.ref b] s = true := fun w hw => hts w (List.mem_filter.mp hw).1
  obtain ⟨c0, i0, k0⟩ := u_known (C := RJ4) (T := TJ4) (N := 4) hg inJ4 (hg _ wi_J4)
  obtain ⟨c1, i1, k1⟩ := u_known (C := RX2) (T := TX2) (N := 3) hg inX2 (hg _ wi_X2)
  obtain ⟨c2, i2, k2⟩ := u_known (C := RX3) (T := TX3) (N := 4) hg inX3 (hg _ wi_X3)
  obtain ⟨c3, i3, k3⟩ := u_known (C := RX4) (T := TX4) (N := 10) hg inX4 (hg _ wi_X4)
  obtain ⟨c4, i4, k4⟩ := u_known (C := RX5) (T := TX5) (N := 5) hg inX5 (hg _ wi_X5)
  obtain ⟨c5, i5, k5⟩ := u_known (C := RX6) (T := TX6) (N := 6) hg inX6 (hg _ wi_X6)
  obtain ⟨c6, i6, k6⟩ := u_known (C := RX7) (T := TX7) (N := 6) hg inX7 (hg _ wi_X7)
  obtain ⟨c7, i7, k7⟩ := u_known (C := RX8) (T := TX8) (N := 3) hg inX8 (hg _ wi_X8)
  obtain ⟨c8, i8, k8⟩ := u_known (C := RX9) (T := TX9) (N := 9) hg inX9 (hg _ wi_X9)
  obtain ⟨cI, hI1, hI2⟩ := ra_prim (ty := .int) (hg _ wa_int) (fun C h => by cases h)
  obtain ⟨cB, hB1, hB2⟩ := ra_prim (ty := .byte) (hg _ wa_byte) (fun C h => by cases h)
  obtain ⟨cS, hS1, hS2⟩ := ra_obj (C := RX5) (hts _ aoS)
  obtain ⟨D, hD⟩ : ∃ D : va_G, ∀ (k : Nat) (q : vw_C), vwCl[k]? = some q → u_Kn s q.1 q.2.1 q.2.2 (D.1 k) (D.2 k) := by
    refine ⟨(fun k => [c0, c1, c2, c3, c4, c5, c6, c7, c8].getD k c0, fun k => [i0, i1, i2, i3, i4, i5, i6, i7, i8].getD k i0), fun k q hq => ?_⟩
    match k, hq with
    | 0, hq => cases hq; exact k0
    | 1, hq => cases hq; exact k1
    | 2, hq => cases hq; exact k2
    | 3, hq => cases hq; exact k3
    | 4, hq => cases hq; exact k4
    | 5, hq => cases hq; exact k5
    | 6, hq => cases hq; exact k6
    | 7, hq => cases hq; exact k7
    | 8, hq => cases hq; exact k8
    | k + 9, hq => simp at hq
  obtain ⟨X, hXD, hXI, hXB, hXS, hXb, hXs⟩ : ∃ X : Cx, X.D = D ∧ X.cI = cI ∧ X.cB = cB ∧ X.cS = cS ∧ X.b = b ∧ X.s = s := ⟨(D, (cI, cB, cS), b, s), rfl, rfl, rfl, rfl, rfl, rfl⟩
  have h0 : Init X := by
    refine ⟨⟨by rw [hXD, hXs]; exact hD, fun k q hk => ?_⟩, by rw [hXb, hXs]; exact hts, by rw [hXb, hXs]; exact hgv⟩
    rw [hXs]
    unfold gTY at hk
    rw [hXI, hXB, hXS] at hk
    match k, hk with
    | 0, hk => cases hk; exact ⟨hI1, hI2⟩
    | 1, hk => cases hk; exact ⟨hB1, hB2⟩
    | 2, hk => cases hk; exact ⟨hS1, hS2⟩
    | k + 3, hk => simp at hk
  obtain ⟨cm, sm, qf, tc, hC, hW⟩ := StW_of h0
  obtain ⟨tq, tt, hTT⟩ := StT_of h0
  have hl := lv_entry ([.ref b]) (n := 10) (Nat.le_of_ble_eq_true rfl)
  rw [lg_entry_eq]
  generalize (lg_sl ([.ref b]) ++ List.replicate (10 - (lg_sl ([.ref b])).length) Slot.unset).toArray = ls at hl ⊢
  have hl : lv_has ls 10 [(0, .ref b)] := hl
  have hG : GC X s := ⟨by rw [hXs]; exact State.WarmedH.refl _, by rw [← hXs]; exact Nat.le_refl _, fun q _ => by rw [hXs]⟩
  have := law_walk (X := X) (p := p) (l := l) (e := e) (s := s) (m := m) (below := below) (meth := meth) (c := c) (ls := ls) h0 ⟨hx, hb, hml, hr, hlocks, hown, hG⟩ hXs (L := L) (xs := xs) (by rw [hXb, hXs]; exact hX) (by rw [hXb]; show b < X.s.heap.size; rw [hXs]; exact hbl) hL (by rw [hXb]; exact hl) hC hW hTT
  rw [hXb] at this
  exact this
