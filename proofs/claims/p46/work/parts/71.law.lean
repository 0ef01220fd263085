set_option maxHeartbeats 4000000 in
set_option maxRecDepth 100000 in
theorem m_L_isDawn {X : Cx} {l : Launch} (h0 : Init X) {cm : Nat → Nat} {o : Nat} {σ : Sb} {sm N : Nat} (hC : StC X cm sm) (hI : GI N σ) (hN : N + 1 ≤ 1000000)  : MM X l yL_isDawn cL_isDawn 10 (some .boolean) 9 225 94 12220 [.ref o] (SBH X cm o σ) (fun v H => v = some (.int 1) ∧ ∃ τ, Nx (N + 1) σ τ ∧ SBH X cm o τ H) (gA X) := by
  refine Met.mk (Bh := (SBH X cm o σ)) (by decide) (Nat.le_of_ble_eq_true rfl) ?_
  intro p e s m below meth c ls hF hB hl
  have hl : lv_has ls 10 [(0, .ref o)] := hl
  obtain ⟨hx, hb, hml, hr, hlk, hown, hG⟩ := id hF
  have hK := hG.K h0
  have hS : va_S (gA X) s.heap s.heap [] := va_S.rf
  have hAo : ∀ q, q < X.z → ¬ gA X q := fun q h9 (h8 : X.z ≤ q) => by omega
  have hO := hI.O
  have hOc := hI.Oc
  have hP := hI.P
  have hO1 := hO.1
  have hO2 := hO.2.1
  have hO3 := hO.2.2.1
  refine lv_aload_n hx hb dL_isDawn_0 rfl (lv_at hl 0 rfl) ?_
  refine core_p (v := .long (digV σ.1)) (grS (n := 1) (As := [.ref o]) (rest := []) h0 hF (m_L_digest h0 (cm := cm) (o := o) (σ := σ) hO ) wm_L_151 wt_L_digest wz_L wc_L_digest ⟨by decide, by decide, by decide +kernel⟩ rfl ⟨Nat.le_of_ble_eq_true rfl, Nat.le_of_ble_eq_true rfl⟩ hB hS hAo ⟨Nat.le_of_ble_eq_true rfl, Nat.le_of_ble_eq_true rfl⟩ hl.1 rfl (Nat.le_of_ble_eq_true rfl) dL_isDawn_1) ?_
  refine lv_lstore_n (lv' := [(1, .long (digV σ.1)), (0, .ref o)]) hx hb dL_isDawn_4 rfl hl (by decide) rfl (fun ls hl => ?_)
  refine lv_aload_n hx hb dL_isDawn_5 rfl (lv_at hl 1 rfl) ?_
  refine core_p (v := .int (nI (cN (fun z => grB σ.1 z) (σ.1.2 2)))) (grV (n := 0) (As := []) (rest := []) h0 hF (m_X9_wouldGrant h0 (cm := cm) (o := o) (σ := σ) hO ) wm_L_167 wo_X9_wouldGrant ws_X9__X9_wouldGrant wz_X9 wc_X9_wouldGrant ⟨by decide, by decide, by decide +kernel⟩ rfl ⟨Nat.le_of_ble_eq_true rfl, Nat.le_of_ble_eq_true rfl⟩ (ci := 8) (SBH.rec hB) rfl hB hS hAo ⟨Nat.le_of_ble_eq_true rfl, Nat.le_of_ble_eq_true rfl⟩ hl.1 rfl (Nat.le_of_ble_eq_true rfl) dL_isDawn_6) ?_
  refine lv_istore_n (lv' := [(3, .int (nI (cN (fun z => grB σ.1 z) (σ.1.2 2)))), (1, .long (digV σ.1)), (0, .ref o)]) hx hb dL_isDawn_9 rfl hl (by decide) rfl (fun ls hl => ?_)
  refine lv_aload_n hx hb dL_isDawn_10 rfl (lv_at hl 2 rfl) ?_
  refine lv_iconst (v := 3) hx hb dL_isDawn_11 (by decide) ?_
  refine core_p (v := .int (accV σ.1 3)) (grV (n := 1) (As := [.int 3]) (rest := []) h0 hF (m_X9_account_3 h0 (cm := cm) (o := o) (σ := σ) hO) wm_L_89 wo_X9_account ws_X9__X9_account wz_X9 wc_X9_account ⟨by decide, by decide, by decide +kernel⟩ rfl ⟨Nat.le_of_ble_eq_true rfl, Nat.le_of_ble_eq_true rfl⟩ (ci := 8) (SBH.rec hB) rfl hB hS hAo ⟨Nat.le_of_ble_eq_true rfl, Nat.le_of_ble_eq_true rfl⟩ hl.1 rfl (Nat.le_of_ble_eq_true rfl) dL_isDawn_12) ?_
  refine lv_istore (lv' := [(4, .int (accV σ.1 3)), (3, .int (nI (cN (fun z => grB σ.1 z) (σ.1.2 2)))), (1, .long (digV σ.1)), (0, .ref o)]) hx hb dL_isDawn_15 hl (by decide) rfl (fun ls hl => ?_)
  refine lv_aload_n hx hb dL_isDawn_17 rfl (lv_at hl 3 rfl) ?_
  refine lv_iconst (v := 2) hx hb dL_isDawn_18 (by decide) ?_
  refine core_p (v := .int (nI (σ.1.2 2))) (grV (n := 1) (As := [.int 2]) (rest := []) h0 hF (m_X9_account_2 h0 (cm := cm) (o := o) (σ := σ) hO) wm_L_89 wo_X9_account ws_X9__X9_account wz_X9 wc_X9_account ⟨by decide, by decide, by decide +kernel⟩ rfl ⟨Nat.le_of_ble_eq_true rfl, Nat.le_of_ble_eq_true rfl⟩ (ci := 8) (SBH.rec hB) rfl hB hS hAo ⟨Nat.le_of_ble_eq_true rfl, Nat.le_of_ble_eq_true rfl⟩ hl.1 rfl (Nat.le_of_ble_eq_true rfl) dL_isDawn_19) ?_
  refine lv_istore (lv' := [(5, .int (nI (σ.1.2 2))), (4, .int (accV σ.1 3)), (3, .int (nI (cN (fun z => grB σ.1 z) (σ.1.2 2)))), (1, .long (digV σ.1)), (0, .ref o)]) hx hb dL_isDawn_22 hl (by decide) rfl (fun ls hl => ?_)
  refine lv_aload_n hx hb dL_isDawn_24 rfl (lv_at hl 4 rfl) ?_
  refine lv_bipush (v := 11) hx hb dL_isDawn_25 (by decide) ?_
  refine core_p (v := .int (sI (σ.1.1 11) (σ.1.2 1))) (grV (n := 1) (As := [.int 11]) (rest := []) h0 hF (m_X9_account_11 h0 (cm := cm) (o := o) (σ := σ) hO) wm_L_89 wo_X9_account ws_X9__X9_account wz_X9 wc_X9_account ⟨by decide, by decide, by decide +kernel⟩ rfl ⟨Nat.le_of_ble_eq_true rfl, Nat.le_of_ble_eq_true rfl⟩ (ci := 8) (SBH.rec hB) rfl hB hS hAo ⟨Nat.le_of_ble_eq_true rfl, Nat.le_of_ble_eq_true rfl⟩ hl.1 rfl (Nat.le_of_ble_eq_true rfl) dL_isDawn_27) ?_
  refine lv_istore (lv' := [(6, .int (sI (σ.1.1 11) (σ.1.2 1))), (5, .int (nI (σ.1.2 2))), (4, .int (accV σ.1 3)), (3, .int (nI (cN (fun z => grB σ.1 z) (σ.1.2 2)))), (1, .long (digV σ.1)), (0, .ref o)]) hx hb dL_isDawn_30 hl (by decide) rfl (fun ls hl => ?_)
  refine lv_iconst (v := 0) hx hb dL_isDawn_32 (by decide) ?_
  refine lv_istore (lv' := [(7, .int 0), (6, .int (sI (σ.1.1 11) (σ.1.2 1))), (5, .int (nI (σ.1.2 2))), (4, .int (accV σ.1 3)), (3, .int (nI (cN (fun z => grB σ.1 z) (σ.1.2 2)))), (1, .long (digV σ.1)), (0, .ref o)]) hx hb dL_isDawn_33 hl (by decide) rfl (fun ls hl => ?_)
  refine lv_iconst (v := 0) hx hb dL_isDawn_35 (by decide) ?_
  refine lv_istore (lv' := [(8, .int 0), (7, .int 0), (6, .int (sI (σ.1.1 11) (σ.1.2 1))), (5, .int (nI (σ.1.2 2))), (4, .int (accV σ.1 3)), (3, .int (nI (cN (fun z => grB σ.1 z) (σ.1.2 2)))), (1, .long (digV σ.1)), (0, .ref o)]) hx hb dL_isDawn_36 hl (by decide) rfl (fun ls hl => ?_)
  have key_38 : ∀ (nf q : Nat), q + nf = σ.1.2 2 → ∀ (ls : Array Slot), lv_has ls 10 [(0, .ref o), (1, .long (digV σ.1)), (3, .int (nI (cN (fun z => grB σ.1 z) (σ.1.2 2)))), (4, .int (accV σ.1 3)), (5, .int (nI (σ.1.2 2))), (6, .int (sI (σ.1.1 11) (σ.1.2 1))), (7, .int (nI (cN (las σ.1) q))), (8, .int (nI q))] → W p l e ({ frames := 9, cells := 94, slots := 12220, locals := 225 } : Room) s m ([.ref o] : List Value).toArray below meth c s.heap [] 0 0 (MQ below (qM (fun v H => v = some (.int 1) ∧ ∃ τ, Nx (N + 1) σ τ ∧ SBH X cm o τ H) (gA X)) ([.ref o] : List Value).toArray s 94 12220 (gA X)) (F0 m 38 ls []) := by
    intro nf
    induction nf with
    | zero =>
      intro q hq ls hl
      have hq_e : q = σ.1.2 2 := by omega
      subst hq_e
      refine lv_iload hx hb dL_isDawn_38 (lv_at hl 7 rfl) ?_
      refine lv_iload hx hb dL_isDawn_40 (lv_at hl 4 rfl) ?_
      refine lv_icmp_ge (tgt := 72) hx hb dL_isDawn_42 (by decide) (fun c_42 => ?_) (fun c_42 => absurd (nI_le (a := σ.1.2 2) (b := σ.1.2 2) (by omega) (by omega)) c_42)
      have n_42 := Int32.not_lt.mpr c_42
      refine lv_aload_n hx hb dL_isDawn_72 rfl (lv_at hl 0 rfl) ?_
      refine core_m (A1 := gA X) (grV (Bh := (SBH X cm o σ)) (n := 0) (As := []) (rest := []) h0 hF (m_X9_dawn h0 (cm := cm) (o := o) (σ := σ) hC hO hP ) wm_L_60 wo_X9_dawn ws_X9__X9_dawn wz_X9 wc_X9_dawn ⟨by decide, by decide, by decide +kernel⟩ rfl ⟨Nat.le_of_ble_eq_true rfl, Nat.le_of_ble_eq_true rfl⟩ (ci := 8) (SBH.rec hB) rfl hB hS hAo ⟨Nat.le_of_ble_eq_true rfl, Nat.le_of_ble_eq_true rfl⟩ hl.1 rfl (Nat.le_of_ble_eq_true rfl) dL_isDawn_73) hS (fun q h8 => h8) (fun v' H locs hq' hz1 hk1 hS => ?_)
      obtain ⟨rfl, hB⟩ := hq'
      obtain ⟨τ, hτ, hB⟩ : ∃ τ, τ = sbChg σ (oCmd σ.1 σ.2.2.2.2.1 11 0 0 0) ∧ SBH X cm o τ H := ⟨_, rfl, hB⟩
      have hGτ : GI (N + 1) τ := by rw [hτ]; exact hI.chg hN 11 _ _ _
      have hOτ := hGτ.O
      have hOcτ := hGτ.Oc
      have hPτ := hGτ.P
      have hWτ := hGτ.2.1.well hGτ.1
      have hExτ := hGτ.2.1.exempt hGτ.1
      have hRFτ := hGτ.2.1.RF hGτ.1
      have hO1τ := hOτ.1
      have hO2τ := hOτ.2.1
      have hO3τ := hOτ.2.2.1
      have hc1 : τ.1 = (oCmd σ.1 σ.2.2.2.2.1 11 0 0 0).2.1 ∧ τ.2.1 = σ.2.1 ∧ τ.2.2.2.1 2 = σ.2.2.2.1 2 := by rw [hτ]; exact chg_1
      have ht1 : ¬ (oCmd σ.1 σ.2.2.2.2.1 11 0 0 0).1 < 0 := nI_pos (by have := cN_le (fun z => grB σ.1 z) (σ.1.2 2); omega)
      have hcτ : 0 < τ.2.2.2.1 0 := by rw [hτ]; exact (chg_back hP ht1).1
      have hd := dawn_f hI.2.1 hI.1 τ.1 hc1.1
      refine lv_iload_n hx hb dL_isDawn_76 rfl (lv_at hl 2 rfl) ?_
      refine lv_icmp_ne (tgt := 126) hx hb dL_isDawn_77 (by decide) (fun c_77 => absurd rfl c_77) (fun c_77 => ?_)
      refine lv_aload_n hx hb dL_isDawn_80 rfl (lv_at hl 0 rfl) ?_
      refine lv_iconst (v := 2) hx hb dL_isDawn_81 (by decide) ?_
      refine core_p (v := .int (nI (τ.1.2 2))) (grV (n := 1) (As := [.int 2]) (rest := []) h0 hF (m_X9_account_2 h0 (cm := cm) (o := o) (σ := τ) hOτ) wm_L_89 wo_X9_account ws_X9__X9_account wz_X9 wc_X9_account ⟨by decide, by decide, by decide +kernel⟩ rfl ⟨Nat.le_of_ble_eq_true rfl, Nat.le_of_ble_eq_true rfl⟩ (ci := 8) (SBH.rec hB) rfl hB hS hAo ⟨Nat.le_of_ble_eq_true rfl, Nat.le_of_ble_eq_true rfl⟩ hl.1 rfl (Nat.le_of_ble_eq_true rfl) dL_isDawn_82) ?_
      refine lv_iload hx hb dL_isDawn_85 (lv_at hl 4 rfl) ?_
      refine lv_iload_n hx hb dL_isDawn_87 rfl (lv_at hl 2 rfl) ?_
      refine lv_isub hx hb dL_isDawn_88 ?_
      refine lv_iload hx hb dL_isDawn_89 (lv_at hl 6 rfl) ?_
      refine lv_isub hx hb dL_isDawn_91 ?_
      refine lv_icmp_ne (tgt := 126) hx hb dL_isDawn_92 (by decide) (fun c_92 => absurd hd.1 c_92) (fun c_92 => ?_)
      refine lv_aload_n hx hb dL_isDawn_95 rfl (lv_at hl 0 rfl) ?_
      refine lv_iconst (v := 3) hx hb dL_isDawn_96 (by decide) ?_
      refine core_p (v := .int (accV τ.1 3)) (grV (n := 1) (As := [.int 3]) (rest := []) h0 hF (m_X9_account_3 h0 (cm := cm) (o := o) (σ := τ) hOτ) wm_L_89 wo_X9_account ws_X9__X9_account wz_X9 wc_X9_account ⟨by decide, by decide, by decide +kernel⟩ rfl ⟨Nat.le_of_ble_eq_true rfl, Nat.le_of_ble_eq_true rfl⟩ (ci := 8) (SBH.rec hB) rfl hB hS hAo ⟨Nat.le_of_ble_eq_true rfl, Nat.le_of_ble_eq_true rfl⟩ hl.1 rfl (Nat.le_of_ble_eq_true rfl) dL_isDawn_97) ?_
      refine lv_iload hx hb dL_isDawn_100 (lv_at hl 3 rfl) ?_
      refine lv_iload hx hb dL_isDawn_102 (lv_at hl 6 rfl) ?_
      refine lv_isub hx hb dL_isDawn_104 ?_
      refine lv_icmp_ne (tgt := 126) hx hb dL_isDawn_105 (by decide) (fun c_105 => absurd hd.2.1 c_105) (fun c_105 => ?_)
      refine lv_aload_n hx hb dL_isDawn_108 rfl (lv_at hl 0 rfl) ?_
      refine lv_bipush (v := 11) hx hb dL_isDawn_109 (by decide) ?_
      refine core_p (v := .int (sI (τ.1.1 11) (τ.1.2 1))) (grV (n := 1) (As := [.int 11]) (rest := []) h0 hF (m_X9_account_11 h0 (cm := cm) (o := o) (σ := τ) hOτ) wm_L_89 wo_X9_account ws_X9__X9_account wz_X9 wc_X9_account ⟨by decide, by decide, by decide +kernel⟩ rfl ⟨Nat.le_of_ble_eq_true rfl, Nat.le_of_ble_eq_true rfl⟩ (ci := 8) (SBH.rec hB) rfl hB hS hAo ⟨Nat.le_of_ble_eq_true rfl, Nat.le_of_ble_eq_true rfl⟩ hl.1 rfl (Nat.le_of_ble_eq_true rfl) dL_isDawn_111) ?_
      refine lv_iload hx hb dL_isDawn_114 (lv_at hl 5 rfl) ?_
      refine lv_iload hx hb dL_isDawn_116 (lv_at hl 6 rfl) ?_
      refine lv_iadd hx hb dL_isDawn_118 ?_
      refine lv_icmp_ne (tgt := 126) hx hb dL_isDawn_119 (by decide) (fun c_119 => absurd hd.2.2.1 c_119) (fun c_119 => ?_)
      refine lv_iconst (v := 1) hx hb dL_isDawn_122 (by decide) ?_
      refine lv_goto (tgt := 127) hx hb dL_isDawn_123 (by decide) ?_
      refine lv_istore (lv' := [(8, .int 1), (0, .ref o), (1, .long (digV σ.1)), (3, .int (nI (cN (fun z => grB σ.1 z) (σ.1.2 2)))), (4, .int (accV σ.1 3)), (5, .int (nI (σ.1.2 2))), (6, .int (sI (σ.1.1 11) (σ.1.2 1))), (7, .int (nI (cN (las σ.1) (σ.1.2 2))))]) hx hb dL_isDawn_127 hl (by decide) rfl (fun ls hl => ?_)
      refine lv_iconst (v := 0) hx hb dL_isDawn_129 (by decide) ?_
      refine lv_istore (lv' := [(9, .int 0), (8, .int 1), (0, .ref o), (1, .long (digV σ.1)), (3, .int (nI (cN (fun z => grB σ.1 z) (σ.1.2 2)))), (4, .int (accV σ.1 3)), (5, .int (nI (σ.1.2 2))), (6, .int (sI (σ.1.1 11) (σ.1.2 1))), (7, .int (nI (cN (las σ.1) (σ.1.2 2))))]) hx hb dL_isDawn_130 hl (by decide) rfl (fun ls hl => ?_)
      have key_132 : ∀ (nf r : Nat), r + nf = τ.1.2 1 → ∀ (ls : Array Slot), lv_has ls 10 [(0, .ref o), (1, .long (digV σ.1)), (3, .int (nI (cN (fun z => grB σ.1 z) (σ.1.2 2)))), (4, .int (accV σ.1 3)), (5, .int (nI (σ.1.2 2))), (6, .int (sI (σ.1.1 11) (σ.1.2 1))), (7, .int (nI (cN (las σ.1) (σ.1.2 2)))), (8, .int 1), (9, .int (nI r))] → W p l e ({ frames := 9, cells := 94, slots := 12220, locals := 225 } : Room) s m ([.ref o] : List Value).toArray below meth c H locs 0 0 (MQ below (qM (fun v H => v = some (.int 1) ∧ ∃ τ, Nx (N + 1) σ τ ∧ SBH X cm o τ H) (gA X)) ([.ref o] : List Value).toArray s 94 12220 (gA X)) (F0 m 132 ls []) := by
        intro nf
        induction nf with
        | zero =>
          intro r hr ls hl
          have hr_e : r = τ.1.2 1 := by omega
          subst hr_e
          refine lv_iload hx hb dL_isDawn_132 (lv_at hl 7 rfl) ?_
          refine lv_if_eq (tgt := 182) hx hb dL_isDawn_134 (by decide) (fun c_134 => absurd c_134 (by decide)) (fun c_134 => ?_)
          refine lv_iload hx hb dL_isDawn_137 (lv_at hl 8 rfl) ?_
          refine lv_aload_n hx hb dL_isDawn_139 rfl (lv_at hl 0 rfl) ?_
          refine lv_iconst (v := 1) hx hb dL_isDawn_140 (by decide) ?_
          refine core_p (v := .int (nI (τ.1.2 1))) (grV (n := 1) (As := [.int 1]) (rest := [.int (nI (τ.1.2 1))]) h0 hF (m_X9_account_1 h0 (cm := cm) (o := o) (σ := τ) hOτ) wm_L_89 wo_X9_account ws_X9__X9_account wz_X9 wc_X9_account ⟨by decide, by decide, by decide +kernel⟩ rfl ⟨Nat.le_of_ble_eq_true rfl, Nat.le_of_ble_eq_true rfl⟩ (ci := 8) (SBH.rec hB) rfl hB hS hAo ⟨Nat.le_of_ble_eq_true rfl, Nat.le_of_ble_eq_true rfl⟩ hl.1 rfl (Nat.le_of_ble_eq_true rfl) dL_isDawn_141) ?_
          refine lv_icmp_ge (tgt := 182) hx hb dL_isDawn_144 (by decide) (fun c_144 => ?_) (fun c_144 => absurd (nI_le (a := τ.1.2 1) (b := τ.1.2 1) (by omega) (by omega)) c_144)
          have n_144 := Int32.not_lt.mpr c_144
          refine lv_iload hx hb dL_isDawn_182 (lv_at hl 7 rfl) ?_
          refine lv_if_eq (tgt := 221) hx hb dL_isDawn_184 (by decide) (fun c_184 => absurd c_184 (by decide)) (fun c_184 => ?_)
          refine lv_aload_n hx hb dL_isDawn_187 rfl (lv_at hl 0 rfl) ?_
          refine core_m (A1 := gA X) (grS (Bh := (SBH X cm o τ)) (n := 1) (As := [.ref o]) (rest := []) h0 hF (m_L_areStars h0 (cm := cm) (o := o) (σ := τ) hOτ hOcτ hWτ hExτ) wm_L_170 wt_L_areStars wz_L wc_L_areStars ⟨by decide, by decide, by decide +kernel⟩ rfl ⟨Nat.le_of_ble_eq_true rfl, Nat.le_of_ble_eq_true rfl⟩ hB hS hAo ⟨Nat.le_of_ble_eq_true rfl, Nat.le_of_ble_eq_true rfl⟩ hl.1 rfl (Nat.le_of_ble_eq_true rfl) dL_isDawn_188) hS (fun q h8 => h8) (fun v' H locs hq' hz1 hk1 hS => ?_)
          obtain ⟨rfl, hB⟩ := hq'
          refine lv_if_eq (tgt := 221) hx hb dL_isDawn_191 (by decide) (fun c_191 => absurd c_191 (by decide)) (fun c_191 => ?_)
          refine lv_aload_n hx hb dL_isDawn_194 rfl (lv_at hl 0 rfl) ?_
          refine core_m (A1 := gA X) (grS (Bh := (SBH X cm o τ)) (n := 1) (As := [.ref o]) (rest := []) h0 hF (m_L_areRoofs h0 (cm := cm) (o := o) (σ := τ) hOτ hWτ hRFτ) wm_L_174 wt_L_areRoofs wz_L wc_L_areRoofs ⟨by decide, by decide, by decide +kernel⟩ rfl ⟨Nat.le_of_ble_eq_true rfl, Nat.le_of_ble_eq_true rfl⟩ hB hS hAo ⟨Nat.le_of_ble_eq_true rfl, Nat.le_of_ble_eq_true rfl⟩ hl.1 rfl (Nat.le_of_ble_eq_true rfl) dL_isDawn_195) hS (fun q h8 => h8) (fun v' H locs hq' hz1 hk1 hS => ?_)
          obtain ⟨rfl, hB⟩ := hq'
          refine lv_if_eq (tgt := 221) hx hb dL_isDawn_198 (by decide) (fun c_198 => absurd c_198 (by decide)) (fun c_198 => ?_)
          refine lv_aload_n hx hb dL_isDawn_201 rfl (lv_at hl 0 rfl) ?_
          refine core_m (A1 := gA X) (grV (Bh := (SBH X cm o τ)) (n := 0) (As := []) (rest := []) h0 hF (m_X9_undo h0 (cm := cm) (o := o) (σ := τ) hPτ hcτ) wm_L_82 wo_X9_undo ws_X9__X9_undo wz_X9 wc_X9_undo ⟨by decide, by decide, by decide +kernel⟩ rfl ⟨Nat.le_of_ble_eq_true rfl, Nat.le_of_ble_eq_true rfl⟩ (ci := 8) (SBH.rec hB) rfl hB hS hAo ⟨Nat.le_of_ble_eq_true rfl, Nat.le_of_ble_eq_true rfl⟩ hl.1 rfl (Nat.le_of_ble_eq_true rfl) dL_isDawn_202) hS (fun q h8 => h8) (fun v' H locs hq' hz1 hk1 hS => ?_)
          obtain ⟨rfl, hB⟩ := hq'
          obtain ⟨υ, hυ, hB⟩ : ∃ υ, υ = sbBack τ ∧ SBH X cm o υ H := ⟨_, rfl, hB⟩
          have hGυ := hGτ.back
          rw [← hυ] at hGυ
          have hOυ := hGυ.1.O
          have hυ1 : υ.1 = σ.1 := by rw [hυ, hτ]; exact (chg_back hP ht1).2.1
          refine lv_if_lt (tgt := 221) hx hb dL_isDawn_205 (by decide) (fun c_205 => absurd c_205 (nI_pos (by have := hPτ.1; omega))) (fun c_205 => ?_)
          have n_205 := Int32.not_lt.mp c_205
          refine lv_aload_n hx hb dL_isDawn_208 rfl (lv_at hl 0 rfl) ?_
          refine core_p (v := .long (digV υ.1)) (grS (n := 1) (As := [.ref o]) (rest := []) h0 hF (m_L_digest h0 (cm := cm) (o := o) (σ := υ) hOυ ) wm_L_151 wt_L_digest wz_L wc_L_digest ⟨by decide, by decide, by decide +kernel⟩ rfl ⟨Nat.le_of_ble_eq_true rfl, Nat.le_of_ble_eq_true rfl⟩ hB hS hAo ⟨Nat.le_of_ble_eq_true rfl, Nat.le_of_ble_eq_true rfl⟩ hl.1 rfl (Nat.le_of_ble_eq_true rfl) dL_isDawn_209) ?_
          refine lv_lload_n hx hb dL_isDawn_212 rfl (lv_at hl 1 rfl) ?_
          refine W.lcmp hx hb dL_isDawn_213 ?_
          refine lv_topE (y := 0) (by rw [hυ1]; exact lg_cmp_self _) ?_
          refine lv_if_ne (tgt := 221) hx hb dL_isDawn_214 (by decide) (fun c_214 => absurd c_214 (by decide)) (fun c_214 => ?_)
          refine lv_iconst (v := 1) hx hb dL_isDawn_217 (by decide) ?_
          refine lv_goto (tgt := 222) hx hb dL_isDawn_218 (by decide) ?_
          refine W.widen (k := 94) (n := 12220) (by omega) (by omega) ?_
          exact mm_zret hF hS dL_isDawn_222 rfl (⟨rfl, υ, ⟨hGυ.1, hυ1, hGυ.2.1.trans hc1.2.1, hGυ.2.2.trans hc1.2.2⟩, hB⟩)
        | succ nf ih_132 =>
          intro r hr ls hl
          have hr_l : r < τ.1.2 1 := by omega
          refine lv_iload hx hb dL_isDawn_132 (lv_at hl 7 rfl) ?_
          refine lv_if_eq (tgt := 182) hx hb dL_isDawn_134 (by decide) (fun c_134 => absurd c_134 (by decide)) (fun c_134 => ?_)
          refine lv_iload hx hb dL_isDawn_137 (lv_at hl 8 rfl) ?_
          refine lv_aload_n hx hb dL_isDawn_139 rfl (lv_at hl 0 rfl) ?_
          refine lv_iconst (v := 1) hx hb dL_isDawn_140 (by decide) ?_
          refine core_p (v := .int (nI (τ.1.2 1))) (grV (n := 1) (As := [.int 1]) (rest := [.int (nI r)]) h0 hF (m_X9_account_1 h0 (cm := cm) (o := o) (σ := τ) hOτ) wm_L_89 wo_X9_account ws_X9__X9_account wz_X9 wc_X9_account ⟨by decide, by decide, by decide +kernel⟩ rfl ⟨Nat.le_of_ble_eq_true rfl, Nat.le_of_ble_eq_true rfl⟩ (ci := 8) (SBH.rec hB) rfl hB hS hAo ⟨Nat.le_of_ble_eq_true rfl, Nat.le_of_ble_eq_true rfl⟩ hl.1 rfl (Nat.le_of_ble_eq_true rfl) dL_isDawn_141) ?_
          refine lv_icmp_ge (tgt := 182) hx hb dL_isDawn_144 (by decide) (fun c_144 => absurd c_144 (nI_ge (a := r) (b := τ.1.2 1) (by omega) (by omega))) (fun c_144 => ?_)
          have n_144 := Int32.not_le.mp c_144
          refine lv_aload_n hx hb dL_isDawn_147 rfl (lv_at hl 0 rfl) ?_
          refine lv_iload hx hb dL_isDawn_148 (lv_at hl 8 rfl) ?_
          refine lv_bipush (v := 7) hx hb dL_isDawn_150 (by decide) ?_
          refine core_p (v := .int (τ.1.1 12 r)) (grV (n := 2) (As := [.int (nI r), .int 7]) (rest := []) h0 hF (m_X9_roofOf_7 h0 (cm := cm) (o := o) (σ := τ) hOτ (nI r) r rfl (by omega)) wm_L_98 wo_X9_roofOf ws_X9__X9_roofOf wz_X9 wc_X9_roofOf ⟨by decide, by decide, by decide +kernel⟩ rfl ⟨Nat.le_of_ble_eq_true rfl, Nat.le_of_ble_eq_true rfl⟩ (ci := 8) (SBH.rec hB) rfl hB hS hAo ⟨Nat.le_of_ble_eq_true rfl, Nat.le_of_ble_eq_true rfl⟩ hl.1 rfl (Nat.le_of_ble_eq_true rfl) dL_isDawn_152) ?_
          refine lv_if_ne (tgt := 173) hx hb dL_isDawn_155 (by decide) (fun c_155 => absurd (hd.2.2.2.2 r hr_l).1 c_155) (fun c_155 => ?_)
          refine lv_aload_n hx hb dL_isDawn_158 rfl (lv_at hl 0 rfl) ?_
          refine lv_iload hx hb dL_isDawn_159 (lv_at hl 8 rfl) ?_
          refine lv_bipush (v := 8) hx hb dL_isDawn_161 (by decide) ?_
          refine core_p (v := .int (τ.1.1 13 r)) (grV (n := 2) (As := [.int (nI r), .int 8]) (rest := []) h0 hF (m_X9_roofOf_8 h0 (cm := cm) (o := o) (σ := τ) hOτ (nI r) r rfl (by omega)) wm_L_98 wo_X9_roofOf ws_X9__X9_roofOf wz_X9 wc_X9_roofOf ⟨by decide, by decide, by decide +kernel⟩ rfl ⟨Nat.le_of_ble_eq_true rfl, Nat.le_of_ble_eq_true rfl⟩ (ci := 8) (SBH.rec hB) rfl hB hS hAo ⟨Nat.le_of_ble_eq_true rfl, Nat.le_of_ble_eq_true rfl⟩ hl.1 rfl (Nat.le_of_ble_eq_true rfl) dL_isDawn_163) ?_
          refine lv_if_ne (tgt := 173) hx hb dL_isDawn_166 (by decide) (fun c_166 => absurd (hd.2.2.2.2 r hr_l).2 c_166) (fun c_166 => ?_)
          refine lv_iconst (v := 1) hx hb dL_isDawn_169 (by decide) ?_
          refine lv_goto (tgt := 174) hx hb dL_isDawn_170 (by decide) ?_
          refine lv_istore (lv' := [(8, .int 1), (0, .ref o), (1, .long (digV σ.1)), (3, .int (nI (cN (fun z => grB σ.1 z) (σ.1.2 2)))), (4, .int (accV σ.1 3)), (5, .int (nI (σ.1.2 2))), (6, .int (sI (σ.1.1 11) (σ.1.2 1))), (7, .int (nI (cN (las σ.1) (σ.1.2 2)))), (9, .int (nI r))]) hx hb dL_isDawn_174 hl (by decide) rfl (fun ls hl => ?_)
          refine lv_iinc (v := nI (r + 1)) (lv' := [(9, .int (nI (r + 1))), (8, .int 1), (0, .ref o), (1, .long (digV σ.1)), (3, .int (nI (cN (fun z => grB σ.1 z) (σ.1.2 2)))), (4, .int (accV σ.1 3)), (5, .int (nI (σ.1.2 2))), (6, .int (sI (σ.1.1 11) (σ.1.2 1))), (7, .int (nI (cN (las σ.1) (σ.1.2 2))))]) hx hb dL_isDawn_176 hl (k := 8) rfl (nI_1 r) (by decide) rfl (fun ls hl => ?_)
          refine lv_goto (tgt := 132) hx hb dL_isDawn_179 (by decide) ?_
          refine ih_132 (r + 1) (by omega) ls (lv_eqv (lv_sub (l' := [(0, .ref o), (1, .long (digV σ.1)), (3, .int (nI (cN (fun z => grB σ.1 z) (σ.1.2 2)))), (4, .int (accV σ.1 3)), (5, .int (nI (σ.1.2 2))), (6, .int (sI (σ.1.1 11) (σ.1.2 1))), (7, .int (nI (cN (las σ.1) (σ.1.2 2)))), (8, .int 1), (9, .int (nI (r + 1)))]) hl [2, 3, 4, 5, 6, 7, 8, 1, 0] rfl) ?_)
          rfl
      exact key_132 (τ.1.2 1) 0 (by omega) ls (lv_sub hl [2, 3, 4, 5, 6, 7, 8, 1, 0] rfl)
    | succ nf ih_38 =>
      intro q hq ls hl
      have hq_l : q < σ.1.2 2 := by omega
      refine lv_iload hx hb dL_isDawn_38 (lv_at hl 7 rfl) ?_
      refine lv_iload hx hb dL_isDawn_40 (lv_at hl 4 rfl) ?_
      refine lv_icmp_ge (tgt := 72) hx hb dL_isDawn_42 (by decide) (fun c_42 => absurd c_42 (nI_ge (a := q) (b := σ.1.2 2) (by omega) (by omega))) (fun c_42 => ?_)
      have n_42 := Int32.not_le.mp c_42
      refine lv_iload hx hb dL_isDawn_45 (lv_at hl 6 rfl) ?_
      have hJ_47 : ∀ v9 : Int32, v9 = bI (las σ.1 q) → W p l e ({ frames := 9, cells := 94, slots := 12220, locals := 225 } : Room) s m ([.ref o] : List Value).toArray below meth c s.heap [] 0 0 (MQ below (qM (fun v H => v = some (.int 1) ∧ ∃ τ, Nx (N + 1) σ τ ∧ SBH X cm o τ H) (gA X)) ([.ref o] : List Value).toArray s 94 12220 (gA X)) (F0 m 63 ls (.int v9 :: [.int (nI (cN (las σ.1) q))])) := by
        intro v9 hv9
        subst hv9
        refine lv_iadd hx hb dL_isDawn_63 ?_
        refine lv_istore (lv' := [(7, .int ((nI (cN (las σ.1) q)) + (bI (las σ.1 q)))), (0, .ref o), (1, .long (digV σ.1)), (3, .int (nI (cN (fun z => grB σ.1 z) (σ.1.2 2)))), (4, .int (accV σ.1 3)), (5, .int (nI (σ.1.2 2))), (6, .int (sI (σ.1.1 11) (σ.1.2 1))), (8, .int (nI q))]) hx hb dL_isDawn_64 hl (by decide) rfl (fun ls hl => ?_)
        refine lv_iinc (v := nI (q + 1)) (lv' := [(8, .int (nI (q + 1))), (7, .int ((nI (cN (las σ.1) q)) + (bI (las σ.1 q)))), (0, .ref o), (1, .long (digV σ.1)), (3, .int (nI (cN (fun z => grB σ.1 z) (σ.1.2 2)))), (4, .int (accV σ.1 3)), (5, .int (nI (σ.1.2 2))), (6, .int (sI (σ.1.1 11) (σ.1.2 1)))]) hx hb dL_isDawn_66 hl (k := 7) rfl (nI_1 q) (by decide) rfl (fun ls hl => ?_)
        refine lv_goto (tgt := 38) hx hb dL_isDawn_69 (by decide) ?_
        refine ih_38 (q + 1) (by omega) ls (lv_eqv (lv_sub (l' := [(0, .ref o), (1, .long (digV σ.1)), (3, .int (nI (cN (fun z => grB σ.1 z) (σ.1.2 2)))), (4, .int (accV σ.1 3)), (5, .int (nI (σ.1.2 2))), (6, .int (sI (σ.1.1 11) (σ.1.2 1))), (7, .int ((nI (cN (las σ.1) q)) + (bI (las σ.1 q)))), (8, .int (nI (q + 1)))]) hl [2, 3, 4, 5, 6, 7, 1, 0] rfl) ?_)
        rw [show ((nI (cN (las σ.1) q)) + (bI (las σ.1 q))) = (nI (cN (las σ.1) (q + 1))) from (cN_b (las σ.1) q)]
      refine lv_aload_n hx hb dL_isDawn_47 rfl (lv_at hl 0 rfl) ?_
      refine lv_iload hx hb dL_isDawn_48 (lv_at hl 7 rfl) ?_
      refine lv_iconst (v := 4) hx hb dL_isDawn_50 (by decide) ?_
      refine core_p (v := .int (σ.1.1 18 q)) (grV (n := 2) (As := [.int (nI q), .int 4]) (rest := [.int (nI (cN (las σ.1) q))]) h0 hF (m_X9_wishOf_4 h0 (cm := cm) (o := o) (σ := σ) hO (nI q) q rfl (by omega)) wm_L_104 wo_X9_wishOf ws_X9__X9_wishOf wz_X9 wc_X9_wishOf ⟨by decide, by decide, by decide +kernel⟩ rfl ⟨Nat.le_of_ble_eq_true rfl, Nat.le_of_ble_eq_true rfl⟩ (ci := 8) (SBH.rec hB) rfl hB hS hAo ⟨Nat.le_of_ble_eq_true rfl, Nat.le_of_ble_eq_true rfl⟩ hl.1 rfl (Nat.le_of_ble_eq_true rfl) dL_isDawn_51) ?_
      refine lv_iconst (v := 2) hx hb dL_isDawn_54 (by decide) ?_
      refine lv_icmp_ne (tgt := 62) hx hb dL_isDawn_55 (by decide) (fun c_55 => ?_) (fun c_55 => ?_)
      · refine lv_iconst (v := 0) hx hb dL_isDawn_62 (by decide) ?_
        exact hJ_47 _ (by simp [bI, las, c_55])
      · refine lv_iconst (v := 1) hx hb dL_isDawn_58 (by decide) ?_
        refine lv_goto (tgt := 63) hx hb dL_isDawn_59 (by decide) ?_
        exact hJ_47 _ (by simp [bI, las, c_55])
  exact key_38 (σ.1.2 2) 0 (by omega) ls (lv_sub hl [7, 6, 5, 4, 3, 2, 1, 0] rfl)
