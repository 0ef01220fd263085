section
variable {X : Cx} {p : Program} {l : Launch} {e : Env} {R : Room} {s : State} {m : MethodId} {args : Array Value} {below : List Frame} {meth : Method} {c : Code} {H : Heap} {locs : List Loc} {cells slots : Nat} {Q : State → Prop}
variable {cc : ByteArray} {nL pc : Nat} {ls : Array Slot} {st rest : List Value} {own : String} {ret : Option FieldType} {A : Nat → Prop} {Bh : Heap → Prop}
variable {y : MethodName} {bytes : ByteArray} {maxL idx n fr lo mc ms : Nat} {ret' : Option FieldType} {b : Addr} {As : List Value} {Qc : Array Value → State → Outcome → State → Prop} {free : Addr → Prop}
theorem grV2 (h0 : Init X) (hF : FX X p s m meth c cc nL ret own) (hM : Met l y [Cond.code y bytes maxL ret'] ({ frames := fr, cells := mc, slots := ms, locals := lo } : Room) (va_Pc (.ref b :: As) (fun U => GC X U ∧ Bh U.heap)) Qc mc ms free)
    (hw1 : Cond.methodLink own idx y ∈ gTs) (hw2 : Cond.instanceMethod y ∈ gTs) (hw3 : Cond.selects y.cls y y ∈ gTs) (hw4 : Cond.initialized y.cls ∈ gTs) (hw5 : Cond.code y bytes maxL ret' ∈ gTs)
    (hy : y.cls ≠ "java/lang/invoke/MethodHandle" ∧ y.cls ≠ "java/lang/invoke/VarHandle" ∧ (parseMethodDescriptor y.desc).map (fun d => d.parameters.length) = some n) (hn : As.length = n) (hR : fr + 1 ≤ R.frames ∧ 8 + (maxL + 11) + lo ≤ R.locals)
    (hrec : ∃ cell : Cell, H[b]? = some cell ∧ cell.vm.isStatics = false ∧ s.vm.findClass y.cls = some cell.cls) (hB : Bh H) (hS : va_S A s.heap H locs) (hA : ∀ q, q < X.z → ¬ A q) (hcs : cells + mc ≤ R.cells ∧ slots + ms ≤ R.slots)
    (hls : ls.size = nL) (hst : st = As.reverse ++ .ref b :: rest) (hW : (rest.map fun v => v.category).sum ≤ 8) (hdg : decode cc pc = .ok (.invokevirtual idx, 3)) :
    va_Run p l e R s m args below meth c H locs cells slots mc ms (F0 m pc ls st) rest (Qc (Value.ref b :: As).toArray) free := by
  obtain ⟨hx, hb, hml, hr, hlk, hown, hG⟩ := hF
  have hts := hG.hts h0 args
  exact va_runV (C := y.cls) ⟨hx, hb, hml, hown, hts⟩ hM ⟨gB h0 hG hw1 hw4 hw5 hy hR, hts _ hw2, hts _ hw3⟩ ⟨fun a U g mk q => q, hrec, fun U hU hW => ⟨rfl, GC.move hG hS hA hU hW, by rw [hU]; exact hB⟩⟩ rfl hn hls hst (lv_room hW) hdg hcs
theorem GC.O {X : Cx} {U : State} (h : GC X U) {E : String} {t : Nat} {A : Nat → Prop} (hA : ∀ q, q < X.z → ¬ A q) (hz : va_O E t (gA X) X.s X.s.heap) : va_O E t A U U.heap := ((va_O.moved h.1.alike hz).kept h.old).narrow (gA_nar hA)
theorem recO {E : String} {t : Nat} (h : va_O E t A s s.heap) (hS : va_S A s.heap H locs) : ∃ cell : Cell, H[t]? = some cell ∧ cell.vm.isStatics = false ∧ s.vm.findClass E = some cell.cls := by
  obtain ⟨cell, h1, h2, h3, -⟩ := h.kept hS.2.1
  exact ⟨cell, h1, h2, h3⟩
end
theorem an128 : ∀ c, c < 128 → nI c &&& 255 = nI c ∧ ((nI c).toUInt32 % 65536).toInt32 = nI c := by decide +kernel

set_option maxHeartbeats 4000000 in
set_option maxRecDepth 100000 in
theorem m_J0_coder_7d493 {X : Cx} {l : Launch} (h0 : Init X) {q : Nat} {t : List Nat} (hT : StrAt X q t)  : PM X l yJ0_coder_7d493 cJ0_coder_7d493 1 (some .byte) 0 0 [.ref q] noW (.int 0) := by
  refine Met.mk (Bh := noW) (by decide) (Nat.le_of_ble_eq_true rfl) ?_
  intro p e s m below meth c ls hF hB hl
  obtain ⟨tv, hT3, hT4⟩ := id hT.2.2
  have hl : lv_has ls 1 [(0, .ref q)] := hl
  obtain ⟨hx, hb, hml, hr, hlk, hown, hG⟩ := id hF
  have hK := hG.K h0
  have hS : va_S noA s.heap s.heap [] := va_S.rf
  refine va_gets hx hb (hG.Z noA_old (csZ h0)) hS hown (hG.hts h0 _ _ wf_J0_38) (fun _ h9 => h9) dJ0_coder_7d493_0 ?_
  refine lv_if_eq (tgt := 13) hx hb dJ0_coder_7d493_3 (by decide) (fun c_3 => absurd c_3 (by decide)) (fun c_3 => ?_)
  refine lv_aload_n hx hb dJ0_coder_7d493_6 rfl (lv_at hl 0 rfl) ?_
  refine vk_getf hx hb (hG.OF noA_old hT.2.1) hS hown (hG.hts h0 _ _ wf_J0_15) (fun _ h9 => h9) dJ0_coder_7d493_7 ?_
  refine lv_goto (tgt := 14) hx hb dJ0_coder_7d493_10 (by decide) ?_
  exact pm_zret hF dJ0_coder_7d493_14 rfl (rfl)

set_option maxHeartbeats 4000000 in
set_option maxRecDepth 100000 in
theorem m_J0_isLatin1_aae02 {X : Cx} {l : Launch} (h0 : Init X) {q : Nat} {t : List Nat} (hT : StrAt X q t)  : PM X l yJ0_isLatin1_aae02 cJ0_isLatin1_aae02 1 (some .boolean) 0 0 [.ref q] noW (.int 1) := by
  refine Met.mk (Bh := noW) (by decide) (Nat.le_of_ble_eq_true rfl) ?_
  intro p e s m below meth c ls hF hB hl
  obtain ⟨tv, hT3, hT4⟩ := id hT.2.2
  have hl : lv_has ls 1 [(0, .ref q)] := hl
  obtain ⟨hx, hb, hml, hr, hlk, hown, hG⟩ := id hF
  have hK := hG.K h0
  have hS : va_S noA s.heap s.heap [] := va_S.rf
  refine va_gets hx hb (hG.Z noA_old (csZ h0)) hS hown (hG.hts h0 _ _ wf_J0_38) (fun _ h9 => h9) dJ0_isLatin1_aae02_0 ?_
  refine lv_if_eq (tgt := 17) hx hb dJ0_isLatin1_aae02_3 (by decide) (fun c_3 => absurd c_3 (by decide)) (fun c_3 => ?_)
  refine lv_aload_n hx hb dJ0_isLatin1_aae02_6 rfl (lv_at hl 0 rfl) ?_
  refine vk_getf hx hb (hG.OF noA_old hT.2.1) hS hown (hG.hts h0 _ _ wf_J0_15) (fun _ h9 => h9) dJ0_isLatin1_aae02_7 ?_
  refine lv_if_ne (tgt := 17) hx hb dJ0_isLatin1_aae02_10 (by decide) (fun c_10 => absurd c_10 (by decide)) (fun c_10 => ?_)
  refine lv_iconst (v := 1) hx hb dJ0_isLatin1_aae02_13 (by decide) ?_
  refine lv_goto (tgt := 18) hx hb dJ0_isLatin1_aae02_14 (by decide) ?_
  exact pm_zret hF dJ0_isLatin1_aae02_18 rfl (rfl)

set_option maxHeartbeats 4000000 in
set_option maxRecDepth 100000 in
theorem m_J0_length_8abf5 {X : Cx} {l : Launch} (h0 : Init X) {q : Nat} {t : List Nat} (hT : StrAt X q t)  : PM X l yJ0_length_8abf5 cJ0_length_8abf5 1 (some .int) 1 20 [.ref q] noW (.int (nI t.length)) := by
  refine Met.mk (Bh := noW) (by decide) (Nat.le_of_ble_eq_true rfl) ?_
  intro p e s m below meth c ls hF hB hl
  obtain ⟨tv, hT3, hT4⟩ := id hT.2.2
  have hl : lv_has ls 1 [(0, .ref q)] := hl
  obtain ⟨hx, hb, hml, hr, hlk, hown, hG⟩ := id hF
  have hK := hG.K h0
  have hS : va_S noA s.heap s.heap [] := va_S.rf
  refine lv_aload_n hx hb dJ0_length_8abf5_0 rfl (lv_at hl 0 rfl) ?_
  refine vk_getf hx hb (hG.OF noA_old hT3) hS hown (hG.hts h0 _ _ wf_J0_9) (fun _ h9 => h9) dJ0_length_8abf5_1 ?_
  refine va_tlen hx hb (hG.T noA_old hT4) hS (v := nI t.length) rfl dJ0_length_8abf5_4 ?_
  refine lv_aload_n hx hb dJ0_length_8abf5_5 rfl (lv_at hl 0 rfl) ?_
  refine core_p (v := .int 0) (grV2 (n := 0) (As := []) (rest := [.int (nI t.length)]) h0 hF (m_J0_coder_7d493 h0 (q := q) (t := t) hT) wm_J0_335 wo_J0_coder_7d493 ws_J0__J0_coder_7d493 wz_J0 wc_J0_coder_7d493 ⟨by decide, by decide, by decide +kernel⟩ rfl ⟨Nat.le_of_ble_eq_true rfl, Nat.le_of_ble_eq_true rfl⟩ (recO (hG.O noA_old hT.1) hS) trivial hS noA_old ⟨Nat.zero_le _, Nat.zero_le _⟩ hl.1 rfl (Nat.le_of_ble_eq_true rfl) dJ0_length_8abf5_6) ?_
  refine lv_ishr hx hb dJ0_length_8abf5_9 ?_
  refine lv_topE (y := nI t.length) (sb_shr0 _) ?_
  exact pm_iret hF dJ0_length_8abf5_10 (rfl)

set_option maxHeartbeats 4000000 in
set_option maxRecDepth 100000 in
theorem m_J1_charAt_3b067 {X : Cx} {l : Launch} (h0 : Init X) {tv : Nat} {t : List Nat} (hT4 : va_T .byte tv t.length (fun j => .int (nI (t.getD j 0))) (gA X) X.s X.s.heap) {k : Nat} (hk : k < t.length) (hlt : t.length < 1000) (hc : t.getD k 0 < 128) : PM X l yJ1_charAt_3b067 cJ1_charAt_3b067 2 (some .char) 2 43 [.ref tv, .int (nI k)] noW (.int (nI (t.getD k 0))) := by
  refine Met.mk (Bh := noW) (by decide) (Nat.le_of_ble_eq_true rfl) ?_
  intro p e s m below meth c ls hF hB hl
  have hl : lv_has ls 2 [(0, .ref tv), (1, .int (nI k))] := hl
  obtain ⟨hx, hb, hml, hr, hlk, hown, hG⟩ := id hF
  have hK := hG.K h0
  have hS : va_S noA s.heap s.heap [] := va_S.rf
  refine lv_iload_n hx hb dJ1_charAt_3b067_0 rfl (lv_at hl 1 rfl) ?_
  refine lv_aload_n hx hb dJ1_charAt_3b067_1 rfl (lv_at hl 0 rfl) ?_
  refine va_tlen hx hb (hG.T noA_old hT4) hS (v := nI t.length) rfl dJ1_charAt_3b067_2 ?_
  refine core_v (grS (n := 2) (As := [.int (nI k), .int (nI t.length)]) (rest := []) h0 hF (m_J0_checkIndex_df160 h0 (i := k) (n := t.length) hk (by omega)) wm_J1_9 wt_J0_checkIndex_df160 wz_J0 wc_J0_checkIndex_df160 ⟨by decide, by decide, by decide +kernel⟩ rfl ⟨Nat.le_of_ble_eq_true rfl, Nat.le_of_ble_eq_true rfl⟩ trivial hS noA_old ⟨Nat.zero_le _, Nat.zero_le _⟩ hl.1 rfl (Nat.le_of_ble_eq_true rfl) dJ1_charAt_3b067_3) ?_
  refine lv_aload_n hx hb dJ1_charAt_3b067_6 rfl (lv_at hl 0 rfl) ?_
  refine lv_iload_n hx hb dJ1_charAt_3b067_7 rfl (lv_at hl 1 rfl) ?_
  refine va_tb hx hb (hG.T noA_old hT4) hS (i := nI k) (vp_in_nI (by omega) (by omega)) (v := .int (nI (t.getD k 0))) (by rw [nI_clamp (by omega)]) dJ1_charAt_3b067_8 ?_
  refine lv_sipush (v := 255) hx hb dJ1_charAt_3b067_9 (by decide) ?_
  refine lv_iand hx hb dJ1_charAt_3b067_12 ?_
  refine lv_topE (y := nI (t.getD k 0)) ((an128 _ hc).1) ?_
  refine lv_i2c (v := nI (t.getD k 0)) hx hb dJ1_charAt_3b067_13 ((an128 _ hc).2) ?_
  exact pm_zret hF dJ1_charAt_3b067_14 ((pk_charN (q := t.getD k 0) (by omega)).1) (rfl)

set_option maxHeartbeats 4000000 in
set_option maxRecDepth 100000 in
theorem m_J0_charAt_5068e {X : Cx} {l : Launch} (h0 : Init X) {q : Nat} {t : List Nat} (hT : StrAt X q t) {k : Nat} (hk : k < t.length) (hlt : t.length < 1000) (hc : t.getD k 0 < 128) : PM X l yJ0_charAt_5068e cJ0_charAt_5068e 2 (some .char) 3 64 [.ref q, .int (nI k)] noW (.int (nI (t.getD k 0))) := by
  refine Met.mk (Bh := noW) (by decide) (Nat.le_of_ble_eq_true rfl) ?_
  intro p e s m below meth c ls hF hB hl
  obtain ⟨tv, hT3, hT4⟩ := id hT.2.2
  have hl : lv_has ls 2 [(0, .ref q), (1, .int (nI k))] := hl
  obtain ⟨hx, hb, hml, hr, hlk, hown, hG⟩ := id hF
  have hK := hG.K h0
  have hS : va_S noA s.heap s.heap [] := va_S.rf
  refine lv_aload_n hx hb dJ0_charAt_5068e_0 rfl (lv_at hl 0 rfl) ?_
  refine core_p (v := .int 1) (grV2 (n := 0) (As := []) (rest := []) h0 hF (m_J0_isLatin1_aae02 h0 (q := q) (t := t) hT) wm_J0_492 wo_J0_isLatin1_aae02 ws_J0__J0_isLatin1_aae02 wz_J0 wc_J0_isLatin1_aae02 ⟨by decide, by decide, by decide +kernel⟩ rfl ⟨Nat.le_of_ble_eq_true rfl, Nat.le_of_ble_eq_true rfl⟩ (recO (hG.O noA_old hT.1) hS) trivial hS noA_old ⟨Nat.zero_le _, Nat.zero_le _⟩ hl.1 rfl (Nat.le_of_ble_eq_true rfl) dJ0_charAt_5068e_1) ?_
  refine lv_if_eq (tgt := 16) hx hb dJ0_charAt_5068e_4 (by decide) (fun c_4 => absurd c_4 (by decide)) (fun c_4 => ?_)
  refine lv_aload_n hx hb dJ0_charAt_5068e_7 rfl (lv_at hl 0 rfl) ?_
  refine vk_getf hx hb (hG.OF noA_old hT3) hS hown (hG.hts h0 _ _ wf_J0_9) (fun _ h9 => h9) dJ0_charAt_5068e_8 ?_
  refine lv_iload_n hx hb dJ0_charAt_5068e_11 rfl (lv_at hl 1 rfl) ?_
  refine core_p (v := .int (nI (t.getD k 0))) (grS (n := 2) (As := [.ref tv, .int (nI k)]) (rest := []) h0 hF (m_J1_charAt_3b067 h0 (tv := tv) (t := t) (k := k) hT4 hk hlt hc) wm_J0_495 wt_J1_charAt_3b067 wz_J1 wc_J1_charAt_3b067 ⟨by decide, by decide, by decide +kernel⟩ rfl ⟨Nat.le_of_ble_eq_true rfl, Nat.le_of_ble_eq_true rfl⟩ trivial hS noA_old ⟨Nat.zero_le _, Nat.zero_le _⟩ hl.1 rfl (Nat.le_of_ble_eq_true rfl) dJ0_charAt_5068e_12) ?_
  exact pm_zret hF dJ0_charAt_5068e_15 ((pk_charN (q := t.getD k 0) (by omega)).1) (rfl)
