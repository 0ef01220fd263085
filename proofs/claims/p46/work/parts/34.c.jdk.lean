/-! methods that answer nothing and change nothing -/
def qV : Array Value → State → Outcome → State → Prop := fun _ st o t => o = .returned none ∧ t.heap = st.heap
def PV (X : Cx) (l : Launch) (y : MethodName) (cc : ByteArray) (nL : Nat) (fr lo : Nat) (av : List Value) (Bh : Heap → Prop) : Prop :=
  Met l y [Cond.code y cc nL none] ({ frames := fr, cells := 0, slots := 0, locals := lo } : Room) (va_Pc av (fun U => GC X U ∧ Bh U.heap)) qV 0 0 noA
section
variable {X : Cx} {p : Program} {l : Launch} {e : Env} {R : Room} {s : State} {m : MethodId} {args : Array Value} {below : List Frame} {meth : Method} {c : Code} {H : Heap} {locs : List Loc} {cells slots : Nat} {Q : State → Prop}
variable {cc : ByteArray} {nL pc : Nat} {ls : Array Slot} {st rest : List Value} {own : String}
theorem core_v (hr : va_Run p l e R s m args below meth c H locs cells slots 0 0 (F0 m pc ls st) rest (fun st o t => o = .returned none ∧ t.heap = st.heap) noA)
    (kk : W p l e R s m args below meth c H locs cells slots Q (F0 m (pc + 3) ls rest)) : W p l e R s m args below meth c H locs cells slots Q (F0 m pc ls st) := by
  intro T hT X1
  obtain ⟨v', st₀, t, T', L, h0, X', hL, e1, e2, ⟨hv, hh⟩, stp⟩ := hr T hT X1
  cases hv
  have hL0 : L = [] := by
    cases L with
    | nil => rfl
    | cons q L => exact absurd (hL q List.mem_cons_self) id
  subst hL0
  rw [List.append_nil] at X'
  obtain ⟨t2, a1, b1⟩ := kk T' (by rw [e1, hh, h0]) X'
  exact ⟨t2, stp t2 a1, b1⟩
theorem pv_ret (hF : FX X p s m meth c cc nL none own) (hdg : decode cc pc = .ok (.return_, 1)) : W p l e R s m args below meth c s.heap [] 0 0 (MQ below qV args s 0 0 noA) (F0 m pc ls []) := by
  obtain ⟨hx, hb, hml, hr, hlk, hown, hG⟩ := hF
  exact W.vret hx hb hr (fun t ht _ => ⟨rfl, ht⟩) (fun q hq => absurd hq List.not_mem_nil) hdg hlk
end
/-- a text of the program, as the law's start holds it -/
def StrAt (X : Cx) (q : Nat) (t : List Nat) : Prop := va_O "java/lang/String" q (gA X) X.s X.s.heap ∧ va_OF "java/lang/String" "coder" "B" (.int 0) q (gA X) X.s X.s.heap ∧ ∃ tv, va_OF "java/lang/String" "value" "[B" (.ref tv) q (gA X) X.s X.s.heap ∧ va_T .byte tv t.length (fun j => .int (nI (t.getD j 0))) (gA X) X.s X.s.heap

set_option maxHeartbeats 4000000 in
set_option maxRecDepth 100000 in
theorem m_J0_checkIndex_df160 {X : Cx} {l : Launch} (h0 : Init X) {i n : Nat} (hi : i < n) (hn : n < 2 ^ 31) : PV X l yJ0_checkIndex_df160 cJ0_checkIndex_df160 2 1 22 [.int (nI i), .int (nI n)] noW := by
  refine Met.mk (Bh := noW) (by decide) (Nat.le_of_ble_eq_true rfl) ?_
  intro p e s m below meth c ls hF hB hl
  have hl : lv_has ls 2 [(0, .int (nI i)), (1, .int (nI n))] := hl
  obtain ⟨hx, hb, hml, hr, hlk, hown, hG⟩ := id hF
  have hK := hG.K h0
  have hS : va_S noA s.heap s.heap [] := va_S.rf
  refine lv_iload_n hx hb dJ0_checkIndex_df160_0 rfl (lv_at hl 0 rfl) ?_
  refine lv_iload_n hx hb dJ0_checkIndex_df160_1 rfl (lv_at hl 1 rfl) ?_
  rcases siZ h0 with hZ | ⟨sv, hZ⟩
  · refine va_gets hx hb (hG.Z noA_old hZ) hS hown (hG.hts h0 _ _ wf_J0_1053) (fun _ h9 => h9) dJ0_checkIndex_df160_2 ?_
    refine core_p (v := .int (nI i)) (grS (n := 3) (As := [.int (nI i), .int (nI n), .null]) (rest := []) h0 hF (m_J3_ck_n h0 (i := i) (n := n) hi hn) wm_J0_1059 wt_J3_checkIndex_8e157 wz_J3 wc_J3_checkIndex_8e157 ⟨by decide, by decide, by decide +kernel⟩ rfl ⟨Nat.le_of_ble_eq_true rfl, Nat.le_of_ble_eq_true rfl⟩ trivial hS noA_old ⟨Nat.zero_le _, Nat.zero_le _⟩ hl.1 rfl (Nat.le_of_ble_eq_true rfl) dJ0_checkIndex_df160_5) ?_
    refine lv_pop hx hb dJ0_checkIndex_df160_8 rfl ?_
    exact pv_ret hF dJ0_checkIndex_df160_9
  · refine va_gets hx hb (hG.Z noA_old hZ) hS hown (hG.hts h0 _ _ wf_J0_1053) (fun _ h9 => h9) dJ0_checkIndex_df160_2 ?_
    refine core_p (v := .int (nI i)) (grS (n := 3) (As := [.int (nI i), .int (nI n), .ref sv]) (rest := []) h0 hF (m_J3_ck_r h0 (i := i) (n := n) (sv := sv) hi hn) wm_J0_1059 wt_J3_checkIndex_8e157 wz_J3 wc_J3_checkIndex_8e157 ⟨by decide, by decide, by decide +kernel⟩ rfl ⟨Nat.le_of_ble_eq_true rfl, Nat.le_of_ble_eq_true rfl⟩ trivial hS noA_old ⟨Nat.zero_le _, Nat.zero_le _⟩ hl.1 rfl (Nat.le_of_ble_eq_true rfl) dJ0_checkIndex_df160_5) ?_
    refine lv_pop hx hb dJ0_checkIndex_df160_8 rfl ?_
    exact pv_ret hF dJ0_checkIndex_df160_9

set_option maxHeartbeats 4000000 in
set_option maxRecDepth 100000 in
theorem m_J5_charAt_5068e {X : Cx} {l : Launch} (h0 : Init X) {ow : Nat → Nat} {t a v n cap : Nat} {ml : Int32} {bs : Nat → Int32} {co : Nat → Nat} {i : Nat} (hi : i < n) (hnc : n ≤ cap) (hcap : cap ≤ 130) (hco : co i < 256 ∧ bs i = sb_b (co i)) : PM X l yJ5_charAt_5068e cJ5_charAt_5068e 5 (some .char) 2 43 [.ref a, .int (nI i)] (Tw X ow t (bfW X a v ml n cap bs)) (.int (nI (co i))) := by
  refine Met.mk (Bh := (Tw X ow t (bfW X a v ml n cap bs))) (by decide) (Nat.le_of_ble_eq_true rfl) ?_
  intro p e s m below meth c ls hF hB hl
  have hl : lv_has ls 5 [(0, .ref a), (1, .int (nI i))] := hl
  obtain ⟨hx, hb, hml, hr, hlk, hown, hG⟩ := id hF
  have hK := hG.K h0
  have hS : va_S noA s.heap s.heap [] := va_S.rf
  have hco1 := hco.1
  refine lv_aload_n hx hb dJ5_charAt_5068e_0 rfl (lv_at hl 0 rfl) ?_
  refine g_get (ci := 0) (v := .int 0) h0 hF inJ4 hB.1 0 rfl rfl 1 (by decide) wf_J5_22 rfl rfl dJ5_charAt_5068e_1 ?_
  refine lv_istore_n (lv' := [(2, .int 0), (0, .ref a), (1, .int (nI i))]) hx hb dJ5_charAt_5068e_4 rfl hl (by decide) rfl (fun ls hl => ?_)
  refine lv_aload_n hx hb dJ5_charAt_5068e_5 rfl (lv_at hl 1 rfl) ?_
  refine g_get (ci := 0) (v := .ref v) h0 hF inJ4 hB.1 0 rfl rfl 0 (by decide) wf_J5_15 rfl rfl dJ5_charAt_5068e_6 ?_
  refine lv_astore_n (lv' := [(3, .ref v), (2, .int 0), (0, .ref a), (1, .int (nI i))]) hx hb dJ5_charAt_5068e_9 rfl hl (by decide) rfl (fun ls hl => ?_)
  refine lv_aload_n hx hb dJ5_charAt_5068e_10 rfl (lv_at hl 2 rfl) ?_
  refine g_get (ci := 0) (v := .int (nI n)) h0 hF inJ4 hB.1 0 rfl rfl 3 (by decide) wf_J5_79 rfl rfl dJ5_charAt_5068e_11 ?_
  refine lv_aload_n hx hb dJ5_charAt_5068e_14 rfl (lv_at hl 0 rfl) ?_
  refine va_alen hx hb hK hB.1 1 1 rfl rfl (v := nI cap) rfl dJ5_charAt_5068e_15 ?_
  refine lv_iload_n hx hb dJ5_charAt_5068e_16 rfl (lv_at hl 1 rfl) ?_
  refine lv_ishr hx hb dJ5_charAt_5068e_17 ?_
  refine lv_topE (y := nI cap) (sb_shr0 _) ?_
  refine va_mmin hx hb (by rw [hl.1]; exact hml) hown (hG.hts h0 _ _ wm_J5_138) (hG.hts h0 _ _ wt_J9_min_7cf53) (hG.hts h0 _ _ wz_J9) (hG.hts h0 _ _ wc_J9_min_7cf53) (Nat.le_of_ble_eq_true rfl) (Nat.le_of_ble_eq_true rfl) (Nat.zero_le _) (Nat.zero_le _) dJ5_charAt_5068e_18 ?_
  refine lv_topE (y := nI n) (if_neg (nI_nlt (by omega) (by omega))) ?_
  refine lv_istore (lv' := [(4, .int (nI n)), (3, .ref v), (2, .int 0), (0, .ref a), (1, .int (nI i))]) hx hb dJ5_charAt_5068e_21 hl (by decide) rfl (fun ls hl => ?_)
  refine lv_iload_n hx hb dJ5_charAt_5068e_23 rfl (lv_at hl 4 rfl) ?_
  refine lv_iload hx hb dJ5_charAt_5068e_24 (lv_at hl 0 rfl) ?_
  refine core_v (grS (n := 2) (As := [.int (nI i), .int (nI n)]) (rest := []) h0 hF (m_J0_checkIndex_df160 h0 (i := i) (n := n) hi (by omega)) wm_J5_144 wt_J0_checkIndex_df160 wz_J0 wc_J0_checkIndex_df160 ⟨by decide, by decide, by decide +kernel⟩ rfl ⟨Nat.le_of_ble_eq_true rfl, Nat.le_of_ble_eq_true rfl⟩ trivial hS noA_old ⟨Nat.zero_le _, Nat.zero_le _⟩ hl.1 rfl (Nat.le_of_ble_eq_true rfl) dJ5_charAt_5068e_26) ?_
  refine lv_iload_n hx hb dJ5_charAt_5068e_29 rfl (lv_at hl 2 rfl) ?_
  refine lv_if_ne (tgt := 42) hx hb dJ5_charAt_5068e_30 (by decide) (fun c_30 => absurd c_30 (by decide)) (fun c_30 => ?_)
  refine lv_aload_n hx hb dJ5_charAt_5068e_33 rfl (lv_at hl 1 rfl) ?_
  refine lv_iload_n hx hb dJ5_charAt_5068e_34 rfl (lv_at hl 4 rfl) ?_
  refine g_bald hx hb hK hB.1 1 1 rfl rfl i (rfl) (by omega) (by omega) dJ5_charAt_5068e_35 ?_
  refine lv_sipush (v := 255) hx hb dJ5_charAt_5068e_36 (by decide) ?_
  refine lv_iand hx hb dJ5_charAt_5068e_39 ?_
  refine lv_topE (y := nI (co i)) (by rw [hco.2]; exact (sb_byte _ hco.1).1) ?_
  refine lv_i2c (v := nI (co i)) hx hb dJ5_charAt_5068e_40 ((sb_byte _ hco.1).2.1) ?_
  exact pm_zret hF dJ5_charAt_5068e_41 ((pk_charN (q := co i) (by omega)).1) (rfl)

set_option maxHeartbeats 4000000 in
set_option maxRecDepth 100000 in
theorem m_J4_charAt_5068e {X : Cx} {l : Launch} (h0 : Init X) {ow : Nat → Nat} {t a v n cap : Nat} {ml : Int32} {bs : Nat → Int32} {co : Nat → Nat} {i : Nat} (hi : i < n) (hnc : n ≤ cap) (hcap : cap ≤ 130) (hco : co i < 256 ∧ bs i = sb_b (co i)) : PM X l yJ4_charAt_5068e cJ4_charAt_5068e 2 (some .char) 3 67 [.ref a, .int (nI i)] (Tw X ow t (bfW X a v ml n cap bs)) (.int (nI (co i))) := by
  refine Met.mk (Bh := (Tw X ow t (bfW X a v ml n cap bs))) (by decide) (Nat.le_of_ble_eq_true rfl) ?_
  intro p e s m below meth c ls hF hB hl
  have hl : lv_has ls 2 [(0, .ref a), (1, .int (nI i))] := hl
  obtain ⟨hx, hb, hml, hr, hlk, hown, hG⟩ := id hF
  have hK := hG.K h0
  have hS : va_S noA s.heap s.heap [] := va_S.rf
  have hco1 := hco.1
  refine lv_aload_n hx hb dJ4_charAt_5068e_0 rfl (lv_at hl 0 rfl) ?_
  refine lv_iload_n hx hb dJ4_charAt_5068e_1 rfl (lv_at hl 1 rfl) ?_
  refine core_p (v := .int (nI (co i))) (grSU (n := 1) (As := [.int (nI i)]) (rest := []) h0 hF (m_J5_charAt_5068e h0 (ow := ow) (t := t) (a := a) (v := v) (ml := ml) (n := n) (cap := cap) (bs := bs) (co := co) (i := i) hi hnc hcap hco) wm_J4_329 wo_J5_charAt_5068e wu_J4 wz_J5 wc_J5_charAt_5068e wy_java_lang_AbstractStringBuilder_J5_charAt__I_C ⟨by decide, by decide +kernel⟩ rfl ⟨Nat.le_of_ble_eq_true rfl, Nat.le_of_ble_eq_true rfl⟩ (ci := 0) ⟨_, hB.1 0 _ rfl⟩ rfl hB hS noA_old ⟨Nat.zero_le _, Nat.zero_le _⟩ hl.1 rfl (Nat.le_of_ble_eq_true rfl) dJ4_charAt_5068e_2) ?_
  exact pm_zret hF dJ4_charAt_5068e_5 ((pk_charN (q := co i) (by omega)).1) (rfl)
