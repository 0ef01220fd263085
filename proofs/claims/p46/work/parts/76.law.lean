theorem getD_mem {t : List Nat} {j : Nat} (h : j < t.length) : t.getD j 0 ∈ t := by
  rw [List.getD_eq_getElem?_getD, List.getElem?_eq_getElem h]
  exact List.getElem_mem h

set_option maxHeartbeats 4000000 in
set_option maxRecDepth 100000 in
theorem m_L_write {X : Cx} {l : Launch} (h0 : Init X) {cm : Nat → Nat} {o : Nat} {σ : Sb} {q : Nat} {t : List Nat} (hT : StrAt X q t) (hok : t.length ≤ 60 ∧ ∀ c ∈ t, 32 ≤ c ∧ c ≤ 126) (h3 : σ.2.2.2.1 3 = 0) : MM X l yL_write cL_write 3 (some (.object "StarBailiff")) 7 167 60 7800 [.ref o, .ref q] (SBH X cm o σ) (fun v H => v = some (.ref o) ∧ ∃ co, (∀ j, j < t.length → co j = t.getD j 0) ∧ SBH X cm o (sbIn σ t.length co) H) (gA X) := by
  refine Met.mk (Bh := (SBH X cm o σ)) (by decide) (Nat.le_of_ble_eq_true rfl) ?_
  intro p e s m below meth c ls hF hB hl
  have hl : lv_has ls 3 [(0, .ref o), (1, .ref q)] := hl
  obtain ⟨hx, hb, hml, hr, hlk, hown, hG⟩ := id hF
  have hK := hG.K h0
  have hS : va_S (gA X) s.heap s.heap [] := va_S.rf
  have hAo : ∀ q, q < X.z → ¬ gA X q := fun q h9 (h8 : X.z ≤ q) => by omega
  have hok1 := hok.1
  have hB : SBH X cm o (sbIn σ 0 σ.2.2.2.2.2) s.heap := by rw [sbIn_0 h3]; exact hB
  refine lv_iconst (v := 0) hx hb dL_write_0 (by decide) ?_
  refine lv_istore_n (lv' := [(2, .int 0), (0, .ref o), (1, .ref q)]) hx hb dL_write_1 rfl hl (by decide) rfl (fun ls hl => ?_)
  have key_2 : ∀ (nf j : Nat), j + nf = t.length → ∀ (co : Nat → Nat), (∀ i, i < j → co i = t.getD i 0) → ∀ (H : Heap) (locs : List Loc), SBH X cm o (sbIn σ j co) H → va_S (gA X) s.heap H locs → ∀ (ls : Array Slot), lv_has ls 3 [(0, .ref o), (1, .ref q), (2, .int (nI j))] → W p l e ({ frames := 7, cells := 60, slots := 7800, locals := 167 } : Room) s m ([.ref o, .ref q] : List Value).toArray below meth c H locs j (130 * j) (MQ below (qM (fun v H => v = some (.ref o) ∧ ∃ co, (∀ j, j < t.length → co j = t.getD j 0) ∧ SBH X cm o (sbIn σ t.length co) H) (gA X)) ([.ref o, .ref q] : List Value).toArray s 60 7800 (gA X)) (F0 m 2 ls []) := by
    intro nf
    induction nf with
    | zero =>
      intro j hj co hx_j H locs hB hS ls hl
      have hj_e : j = t.length := by omega
      subst hj_e
      refine lv_iload_n hx hb dL_write_2 rfl (lv_at hl 2 rfl) ?_
      refine lv_aload_n hx hb dL_write_3 rfl (lv_at hl 1 rfl) ?_
      refine core_p (v := .int (nI t.length)) (grV2 (n := 0) (As := []) (rest := [.int (nI t.length)]) h0 hF (m_J0_length_8abf5 h0 (q := q) (t := t) hT) wm_L_10 wo_J0_length_8abf5 ws_J0__J0_length_8abf5 wz_J0 wc_J0_length_8abf5 ⟨by decide, by decide, by decide +kernel⟩ rfl ⟨Nat.le_of_ble_eq_true rfl, Nat.le_of_ble_eq_true rfl⟩ (recO (hG.O hAo hT.1) hS) trivial hS hAo ⟨by show t.length + 0 ≤ 60; omega, by show 130 * t.length + 0 ≤ 7800; omega⟩ hl.1 rfl (Nat.le_of_ble_eq_true rfl) dL_write_4) ?_
      refine lv_icmp_ge (tgt := 26) hx hb dL_write_7 (by decide) (fun c_7 => ?_) (fun c_7 => absurd (nI_le (a := t.length) (b := t.length) (by omega) (by omega)) c_7)
      have n_7 := Int32.not_lt.mpr c_7
      refine lv_aload_n hx hb dL_write_26 rfl (lv_at hl 0 rfl) ?_
      refine W.widen (k := 60) (n := 7800) (by omega) (by omega) ?_
      exact mm_aret hF hS dL_write_27 (⟨rfl, co, hx_j, hB⟩)
    | succ nf ih_2 =>
      intro j hj co hx_j H locs hB hS ls hl
      have hj_l : j < t.length := by omega
      refine lv_iload_n hx hb dL_write_2 rfl (lv_at hl 2 rfl) ?_
      refine lv_aload_n hx hb dL_write_3 rfl (lv_at hl 1 rfl) ?_
      refine core_p (v := .int (nI t.length)) (grV2 (n := 0) (As := []) (rest := [.int (nI j)]) h0 hF (m_J0_length_8abf5 h0 (q := q) (t := t) hT) wm_L_10 wo_J0_length_8abf5 ws_J0__J0_length_8abf5 wz_J0 wc_J0_length_8abf5 ⟨by decide, by decide, by decide +kernel⟩ rfl ⟨Nat.le_of_ble_eq_true rfl, Nat.le_of_ble_eq_true rfl⟩ (recO (hG.O hAo hT.1) hS) trivial hS hAo ⟨by show j + 0 ≤ 60; omega, by show 130 * j + 0 ≤ 7800; omega⟩ hl.1 rfl (Nat.le_of_ble_eq_true rfl) dL_write_4) ?_
      refine lv_icmp_ge (tgt := 26) hx hb dL_write_7 (by decide) (fun c_7 => absurd c_7 (nI_ge (a := j) (b := t.length) (by omega) (by omega))) (fun c_7 => ?_)
      have n_7 := Int32.not_le.mp c_7
      refine lv_aload_n hx hb dL_write_10 rfl (lv_at hl 0 rfl) ?_
      refine lv_aload_n hx hb dL_write_11 rfl (lv_at hl 1 rfl) ?_
      refine lv_iload_n hx hb dL_write_12 rfl (lv_at hl 2 rfl) ?_
      refine core_p (v := .int (nI (t.getD j 0))) (grV2 (n := 1) (As := [.int (nI j)]) (rest := [.ref o]) h0 hF (m_J0_charAt_5068e h0 (q := q) (t := t) (k := j) hT hj_l (by omega) (Nat.lt_of_le_of_lt (hok.2 _ (getD_mem hj_l)).2 (by decide))) wm_L_16 wo_J0_charAt_5068e ws_J0__J0_charAt_5068e wz_J0 wc_J0_charAt_5068e ⟨by decide, by decide, by decide +kernel⟩ rfl ⟨Nat.le_of_ble_eq_true rfl, Nat.le_of_ble_eq_true rfl⟩ (recO (hG.O hAo hT.1) hS) trivial hS hAo ⟨by show j + 0 ≤ 60; omega, by show 130 * j + 0 ≤ 7800; omega⟩ hl.1 rfl (Nat.le_of_ble_eq_true rfl) dL_write_13) ?_
      refine core_m (A1 := gA X) (grV (Bh := (SBH X cm o (sbIn σ j co))) (n := 1) (As := [.int (nI (t.getD j 0))]) (rest := []) h0 hF (m_X9_append h0 (cm := cm) (o := o) (σ := sbIn σ j co) (cv := t.getD j 0) (hok.2 _ (getD_mem hj_l)).1 (hok.2 _ (getD_mem hj_l)).2 (by show j < 60; omega)) wm_L_20 wo_X9_append ws_X9__X9_append wz_X9 wc_X9_append ⟨by decide, by decide, by decide +kernel⟩ rfl ⟨Nat.le_of_ble_eq_true rfl, Nat.le_of_ble_eq_true rfl⟩ (ci := 8) (SBH.rec hB) rfl hB hS hAo ⟨by show j + 1 ≤ 60; omega, by show 130 * j + 130 ≤ 7800; omega⟩ hl.1 rfl (Nat.le_of_ble_eq_true rfl) dL_write_16) hS (fun q h8 => h8) (fun v' H locs hq' hz1 hk1 hS => ?_)
      obtain ⟨rfl, hB⟩ := hq'
      rw [sbIn_2] at hB
      refine lv_pop hx hb dL_write_19 rfl ?_
      refine lv_iinc (v := nI (j + 1)) (lv' := [(2, .int (nI (j + 1))), (0, .ref o), (1, .ref q)]) hx hb dL_write_20 hl (k := 2) rfl (nI_1 j) (by decide) rfl (fun ls hl => ?_)
      refine lv_goto (tgt := 2) hx hb dL_write_23 (by decide) ?_
      refine W.widen (k := (j + 1)) (n := 130 * (j + 1)) (by omega) (by omega) ?_
      refine ih_2 (j + 1) (by omega) (fun i => if i = (sbIn σ j co).2.2.2.1 3 then t.getD j 0 else (sbIn σ j co).2.2.2.2.2 i) (fun i hi => by by_cases h9 : i = j; (subst h9; exact if_pos rfl); exact (if_neg h9).trans (hx_j i (by omega))) _ _ hB hS ls (lv_eqv (lv_sub (l' := [(0, .ref o), (1, .ref q), (2, .int (nI (j + 1)))]) hl [1, 2, 0] rfl) ?_)
      rfl
  refine W.widen (k := 0) (n := 130 * 0) (by omega) (by omega) ?_
  exact key_2 (t.length) 0 (by omega) σ.2.2.2.2.2 (fun i hi => absurd hi (Nat.not_lt_zero i)) _ _ hB hS ls (lv_sub hl [1, 2, 0] rfl)
