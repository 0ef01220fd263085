set_option maxHeartbeats 4000000 in
set_option maxRecDepth 100000 in
theorem m_X9_isWell {X : Cx} {l : Launch} (h0 : Init X) {cm : Nat → Nat} {o : Nat} {σ : Sb} (hO : Ok σ.1) (hOc : Okc σ.1) (hW : Well σ.1) : PM X l yX9_isWell cX9_isWell 2 (some .int) 4 90 [.ref o] (SBH X cm o σ) (.int 1) := by
  refine Met.mk (Bh := (SBH X cm o σ)) (by decide) (Nat.le_of_ble_eq_true rfl) ?_
  intro p e s m below meth c ls hF hB hl
  obtain ⟨ow, f, g, hsb⟩ := id hB
  obtain ⟨hz, hob, hsk, hpa, hre, ⟨cw, ew, nu, hcw, hwo⟩, hin, ⟨ln, lc, hln, hli⟩, hi60⟩ := id hsb
  have hs0 := hsk 0 (by decide)
  have hl : lv_has ls 2 [(0, .ref o)] := hl
  obtain ⟨hx, hb, hml, hr, hlk, hown, hG⟩ := id hF
  have hK := hG.K h0
  have hS : va_S noA s.heap s.heap [] := va_S.rf
  have hO1 := hO.1
  have hO2 := hO.2.1
  have hO3 := hO.2.2.1
  refine lv_iconst (v := 0) hx hb dX9_isWell_0 (by decide) ?_
  refine lv_istore_n (lv' := [(1, .int 0), (0, .ref o)]) hx hb dX9_isWell_1 rfl hl (by decide) rfl (fun ls hl => ?_)
  have key_2 : ∀ (nf j : Nat), j + nf = σ.1.2 1 → ∀ (ls : Array Slot), lv_has ls 2 [(0, .ref o), (1, .int (nI j))] → W p l e ({ frames := 4, cells := 0, slots := 0, locals := 90 } : Room) s m ([.ref o] : List Value).toArray below meth c s.heap [] 0 0 (MQ below (qP (.int 1)) ([.ref o] : List Value).toArray s 0 0 noA) (F0 m 2 ls []) := by
    intro nf
    induction nf with
    | zero =>
      intro j hj ls hl
      have hj_e : j = σ.1.2 1 := by omega
      refine lv_iload_n hx hb dX9_isWell_2 rfl (lv_at hl 1 rfl) ?_
      refine lv_aload_n hx hb dX9_isWell_3 rfl (lv_at hl 0 rfl) ?_
      refine g_get (ci := 8) (v := .ref (f 0 0)) h0 hF inX9 hob.1 0 rfl rfl 0 (by decide) wf_X9_12 rfl rfl dX9_isWell_4 ?_
      refine g_get (ci := 4) (v := .ref (f 0 2)) h0 hF inX5 hs0.1 0 rfl rfl 1 (by decide) wf_X9_165 rfl rfl dX9_isWell_7 ?_
      refine g_get (ci := 3) (v := .int (nI (σ.1.2 1))) h0 hF inX4 hs0.1 2 rfl rfl 0 (by decide) wf_X9_287 rfl rfl dX9_isWell_10 ?_
      refine lv_icmp_ge (tgt := 50) hx hb dX9_isWell_13 (by decide) (fun c_13 => ?_) (fun c_13 => absurd (nI_le (a := σ.1.2 1) (b := j) (by omega) (by omega)) c_13)
      have n_13 := Int32.not_lt.mpr c_13
      refine lv_iconst (v := 0) hx hb dX9_isWell_50 (by decide) ?_
      refine lv_istore_n (lv' := [(1, .int 0), (0, .ref o)]) hx hb dX9_isWell_51 rfl hl (by decide) rfl (fun ls hl => ?_)
      have key_52 : ∀ (nf d : Nat), d + nf = 4 → ∀ (ls : Array Slot), lv_has ls 2 [(0, .ref o), (1, .int (nI d))] → W p l e ({ frames := 4, cells := 0, slots := 0, locals := 90 } : Room) s m ([.ref o] : List Value).toArray below meth c s.heap [] 0 0 (MQ below (qP (.int 1)) ([.ref o] : List Value).toArray s 0 0 noA) (F0 m 52 ls []) := by
        intro nf
        induction nf with
        | zero =>
          intro d hd ls hl
          have hd_e : d = 4 := by omega
          refine lv_iload_n hx hb dX9_isWell_52 rfl (lv_at hl 1 rfl) ?_
          refine lv_iconst (v := 4) hx hb dX9_isWell_53 (by decide) ?_
          refine lv_icmp_ge (tgt := 78) hx hb dX9_isWell_54 (by decide) (fun c_54 => ?_) (fun c_54 => absurd (nI_le (a := 4) (b := d) (by omega) (by omega)) c_54)
          have n_54 := Int32.not_lt.mpr c_54
          refine lv_iconst (v := 1) hx hb dX9_isWell_78 (by decide) ?_
          exact pm_iret hF dX9_isWell_79 (rfl)
        | succ nf ih_52 =>
          intro d hd ls hl
          have hd_l : d < 4 := by omega
          refine lv_iload_n hx hb dX9_isWell_52 rfl (lv_at hl 1 rfl) ?_
          refine lv_iconst (v := 4) hx hb dX9_isWell_53 (by decide) ?_
          refine lv_icmp_ge (tgt := 78) hx hb dX9_isWell_54 (by decide) (fun c_54 => absurd c_54 (nI_ge (a := d) (b := 4) (by omega) (by omega))) (fun c_54 => ?_)
          have n_54 := Int32.not_le.mp c_54
          refine lv_aload_n hx hb dX9_isWell_57 rfl (lv_at hl 0 rfl) ?_
          refine lv_iload_n hx hb dX9_isWell_58 rfl (lv_at hl 1 rfl) ?_
          refine core_p (v := .int (seenN σ.1 d)) (grV (n := 1) (As := [.int (nI d)]) (rest := []) h0 hF (m_X9_seen h0 (cm := cm) (o := o) (σ := σ) hO (nI d) d rfl (by omega)) wm_X9_299 wo_X9_seen ws_X9__X9_seen wz_X9 wc_X9_seen ⟨by decide, by decide, by decide +kernel⟩ rfl ⟨Nat.le_of_ble_eq_true rfl, Nat.le_of_ble_eq_true rfl⟩ (ci := 8) ⟨_, hob.1 0 _ rfl⟩ rfl hB hS noA_old ⟨Nat.zero_le _, Nat.zero_le _⟩ hl.1 rfl (Nat.le_of_ble_eq_true rfl) dX9_isWell_59) ?_
          refine lv_aload_n hx hb dX9_isWell_62 rfl (lv_at hl 0 rfl) ?_
          refine lv_iload_n hx hb dX9_isWell_63 rfl (lv_at hl 1 rfl) ?_
          refine core_p (v := .int (seenA σ.1 d)) (grV (n := 1) (As := [.int (nI d)]) (rest := [.int (seenN σ.1 d)]) h0 hF (m_X9_seenAgain h0 (cm := cm) (o := o) (σ := σ) hO hOc (nI d) d rfl (by omega)) wm_X9_302 wo_X9_seenAgain ws_X9__X9_seenAgain wz_X9 wc_X9_seenAgain ⟨by decide, by decide, by decide +kernel⟩ rfl ⟨Nat.le_of_ble_eq_true rfl, Nat.le_of_ble_eq_true rfl⟩ (ci := 8) ⟨_, hob.1 0 _ rfl⟩ rfl hB hS noA_old ⟨Nat.zero_le _, Nat.zero_le _⟩ hl.1 rfl (Nat.le_of_ble_eq_true rfl) dX9_isWell_64) ?_
          refine lv_icmp_eq (tgt := 72) hx hb dX9_isWell_67 (by decide) (fun c_67 => ?_) (fun c_67 => absurd (hW.2 d hd_l) c_67)
          refine lv_iinc (v := nI (d + 1)) (lv' := [(1, .int (nI (d + 1))), (0, .ref o)]) hx hb dX9_isWell_72 hl (k := 1) rfl (nI_1 d) (by decide) rfl (fun ls hl => ?_)
          refine lv_goto (tgt := 52) hx hb dX9_isWell_75 (by decide) ?_
          refine ih_52 (d + 1) (by omega) ls (lv_eqv (lv_sub (l' := [(0, .ref o), (1, .int (nI (d + 1)))]) hl [1, 0] rfl) ?_)
          rfl
      exact key_52 (4) 0 (by omega) ls (lv_sub hl [1, 0] rfl)
    | succ nf ih_2 =>
      intro j hj ls hl
      have hj_l : j < σ.1.2 1 := by omega
      refine lv_iload_n hx hb dX9_isWell_2 rfl (lv_at hl 1 rfl) ?_
      refine lv_aload_n hx hb dX9_isWell_3 rfl (lv_at hl 0 rfl) ?_
      refine g_get (ci := 8) (v := .ref (f 0 0)) h0 hF inX9 hob.1 0 rfl rfl 0 (by decide) wf_X9_12 rfl rfl dX9_isWell_4 ?_
      refine g_get (ci := 4) (v := .ref (f 0 2)) h0 hF inX5 hs0.1 0 rfl rfl 1 (by decide) wf_X9_165 rfl rfl dX9_isWell_7 ?_
      refine g_get (ci := 3) (v := .int (nI (σ.1.2 1))) h0 hF inX4 hs0.1 2 rfl rfl 0 (by decide) wf_X9_287 rfl rfl dX9_isWell_10 ?_
      refine lv_icmp_ge (tgt := 50) hx hb dX9_isWell_13 (by decide) (fun c_13 => absurd c_13 (nI_ge (a := j) (b := σ.1.2 1) (by omega) (by omega))) (fun c_13 => ?_)
      have n_13 := Int32.not_le.mp c_13
      refine lv_aload_n hx hb dX9_isWell_16 rfl (lv_at hl 0 rfl) ?_
      refine lv_iload_n hx hb dX9_isWell_17 rfl (lv_at hl 1 rfl) ?_
      refine core_p (v := .int (σ.1.1 6 j)) (grV (n := 1) (As := [.int (nI j)]) (rest := []) h0 hF (m_X9_debt h0 (cm := cm) (o := o) (σ := σ) hO (nI j) j rfl (by omega)) wm_X9_288 wo_X9_debt ws_X9__X9_debt wz_X9 wc_X9_debt ⟨by decide, by decide, by decide +kernel⟩ rfl ⟨Nat.le_of_ble_eq_true rfl, Nat.le_of_ble_eq_true rfl⟩ (ci := 8) ⟨_, hob.1 0 _ rfl⟩ rfl hB hS noA_old ⟨Nat.zero_le _, Nat.zero_le _⟩ hl.1 rfl (Nat.le_of_ble_eq_true rfl) dX9_isWell_18) ?_
      refine lv_aload_n hx hb dX9_isWell_21 rfl (lv_at hl 0 rfl) ?_
      refine lv_iload_n hx hb dX9_isWell_22 rfl (lv_at hl 1 rfl) ?_
      refine core_p (v := .int (σ.1.1 8 j - σ.1.1 9 j)) (grV (n := 1) (As := [.int (nI j)]) (rest := [.int (σ.1.1 6 j)]) h0 hF (m_X9_debtAgain h0 (cm := cm) (o := o) (σ := σ) hO (nI j) j rfl (by omega)) wm_X9_290 wo_X9_debtAgain ws_X9__X9_debtAgain wz_X9 wc_X9_debtAgain ⟨by decide, by decide, by decide +kernel⟩ rfl ⟨Nat.le_of_ble_eq_true rfl, Nat.le_of_ble_eq_true rfl⟩ (ci := 8) ⟨_, hob.1 0 _ rfl⟩ rfl hB hS noA_old ⟨Nat.zero_le _, Nat.zero_le _⟩ hl.1 rfl (Nat.le_of_ble_eq_true rfl) dX9_isWell_23) ?_
      refine lv_icmp_ne (tgt := 42) hx hb dX9_isWell_26 (by decide) (fun c_26 => absurd (hW.1 j hj_l).1 c_26) (fun c_26 => ?_)
      refine lv_aload_n hx hb dX9_isWell_29 rfl (lv_at hl 0 rfl) ?_
      refine lv_iload_n hx hb dX9_isWell_30 rfl (lv_at hl 1 rfl) ?_
      refine core_p (v := .int (couN σ.1 j)) (grV (n := 1) (As := [.int (nI j)]) (rest := []) h0 hF (m_X9_could h0 (cm := cm) (o := o) (σ := σ) hO (nI j) j rfl (by omega)) wm_X9_293 wo_X9_could ws_X9__X9_could wz_X9 wc_X9_could ⟨by decide, by decide, by decide +kernel⟩ rfl ⟨Nat.le_of_ble_eq_true rfl, Nat.le_of_ble_eq_true rfl⟩ (ci := 8) ⟨_, hob.1 0 _ rfl⟩ rfl hB hS noA_old ⟨Nat.zero_le _, Nat.zero_le _⟩ hl.1 rfl (Nat.le_of_ble_eq_true rfl) dX9_isWell_31) ?_
      refine lv_aload_n hx hb dX9_isWell_34 rfl (lv_at hl 0 rfl) ?_
      refine lv_iload_n hx hb dX9_isWell_35 rfl (lv_at hl 1 rfl) ?_
      refine core_p (v := .int (couA σ.1 j)) (grV (n := 1) (As := [.int (nI j)]) (rest := [.int (couN σ.1 j)]) h0 hF (m_X9_couldAgain h0 (cm := cm) (o := o) (σ := σ) hO (nI j) j rfl (by omega)) wm_X9_296 wo_X9_couldAgain ws_X9__X9_couldAgain wz_X9 wc_X9_couldAgain ⟨by decide, by decide, by decide +kernel⟩ rfl ⟨Nat.le_of_ble_eq_true rfl, Nat.le_of_ble_eq_true rfl⟩ (ci := 8) ⟨_, hob.1 0 _ rfl⟩ rfl hB hS noA_old ⟨Nat.zero_le _, Nat.zero_le _⟩ hl.1 rfl (Nat.le_of_ble_eq_true rfl) dX9_isWell_36) ?_
      refine lv_icmp_eq (tgt := 44) hx hb dX9_isWell_39 (by decide) (fun c_39 => ?_) (fun c_39 => absurd (hW.1 j hj_l).2 c_39)
      refine lv_iinc (v := nI (j + 1)) (lv' := [(1, .int (nI (j + 1))), (0, .ref o)]) hx hb dX9_isWell_44 hl (k := 1) rfl (nI_1 j) (by decide) rfl (fun ls hl => ?_)
      refine lv_goto (tgt := 2) hx hb dX9_isWell_47 (by decide) ?_
      refine ih_2 (j + 1) (by omega) ls (lv_eqv (lv_sub (l' := [(0, .ref o), (1, .int (nI (j + 1)))]) hl [1, 0] rfl) ?_)
      rfl
  exact key_2 (σ.1.2 1) 0 (by omega) ls (lv_sub hl [1, 0] rfl)
