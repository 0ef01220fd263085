set_option maxHeartbeats 4000000 in
set_option maxRecDepth 100000 in
theorem m_L_isPound {X : Cx} {l : Launch} (h0 : Init X) {cm : Nat → Nat} {o : Nat} {σ : Sb} {sm N : Nat} (hC : StC X cm sm) (hI : GI N σ) (hN : N + 2 ≤ 1000000) {r : Nat} (hrr : r < σ.1.2 1) : MM X l yL_isPound cL_isPound 13 (some .boolean) 9 225 50 6500 [.ref o, .int (nI r)] (SBH X cm o σ) (fun v H => v = some (.int 1) ∧ ∃ τ, Nx (N + 2) σ τ ∧ SBH X cm o τ H) (gA X) := by
  refine Met.mk (Bh := (SBH X cm o σ)) (by decide) (Nat.le_of_ble_eq_true rfl) ?_
  intro p e s m below meth c ls hF hB hl
  have hl : lv_has ls 13 [(0, .ref o), (1, .int (nI r))] := hl
  obtain ⟨hx, hb, hml, hr, hlk, hown, hG⟩ := id hF
  have hK := hG.K h0
  have hS : va_S (gA X) s.heap s.heap [] := va_S.rf
  have hAo : ∀ q, q < X.z → ¬ gA X q := fun q h9 (h8 : X.z ≤ q) => by omega
  have hO := hI.O
  have hOc := hI.Oc
  have hP := hI.P
  have hO1 := hO.1
  have hO2 := hO.2.1
  have hO3 := hO.2.2.1
  have hpd := pound_f hI.2.1 hI.1 σ.2.2.2.2.1 hrr _ rfl
  refine lv_aload_n hx hb dL_isPound_0 rfl (lv_at hl 0 rfl) ?_
  refine core_p (v := .long (digV σ.1)) (grS (n := 1) (As := [.ref o]) (rest := []) h0 hF (m_L_digest h0 (cm := cm) (o := o) (σ := σ) hO ) wm_L_151 wt_L_digest wz_L wc_L_digest ⟨by decide, by decide, by decide +kernel⟩ rfl ⟨Nat.le_of_ble_eq_true rfl, Nat.le_of_ble_eq_true rfl⟩ hB hS hAo ⟨Nat.le_of_ble_eq_true rfl, Nat.le_of_ble_eq_true rfl⟩ hl.1 rfl (Nat.le_of_ble_eq_true rfl) dL_isPound_1) ?_
  refine lv_lstore_n (lv' := [(2, .long (digV σ.1)), (0, .ref o), (1, .int (nI r))]) hx hb dL_isPound_4 rfl hl (by decide) rfl (fun ls hl => ?_)
  refine lv_aload_n hx hb dL_isPound_5 rfl (lv_at hl 1 rfl) ?_
  refine lv_iload_n hx hb dL_isPound_6 rfl (lv_at hl 2 rfl) ?_
  refine lv_iconst (v := 2) hx hb dL_isPound_7 (by decide) ?_
  refine core_p (v := .int (roofV σ.1 r 2)) (grV (n := 2) (As := [.int (nI r), .int 2]) (rest := []) h0 hF (m_X9_roofOf_2 h0 (cm := cm) (o := o) (σ := σ) hO (nI r) r rfl (by omega)) wm_L_98 wo_X9_roofOf ws_X9__X9_roofOf wz_X9 wc_X9_roofOf ⟨by decide, by decide, by decide +kernel⟩ rfl ⟨Nat.le_of_ble_eq_true rfl, Nat.le_of_ble_eq_true rfl⟩ (ci := 8) (SBH.rec hB) rfl hB hS hAo ⟨Nat.le_of_ble_eq_true rfl, Nat.le_of_ble_eq_true rfl⟩ hl.1 rfl (Nat.le_of_ble_eq_true rfl) dL_isPound_8) ?_
  refine lv_aload_n hx hb dL_isPound_11 rfl (lv_at hl 1 rfl) ?_
  refine lv_iload_n hx hb dL_isPound_12 rfl (lv_at hl 2 rfl) ?_
  refine lv_iconst (v := 3) hx hb dL_isPound_13 (by decide) ?_
  refine core_p (v := .int (roofV σ.1 r 3)) (grV (n := 2) (As := [.int (nI r), .int 3]) (rest := [.int (roofV σ.1 r 2)]) h0 hF (m_X9_roofOf_3 h0 (cm := cm) (o := o) (σ := σ) hO (nI r) r rfl (by omega)) wm_L_98 wo_X9_roofOf ws_X9__X9_roofOf wz_X9 wc_X9_roofOf ⟨by decide, by decide, by decide +kernel⟩ rfl ⟨Nat.le_of_ble_eq_true rfl, Nat.le_of_ble_eq_true rfl⟩ (ci := 8) (SBH.rec hB) rfl hB hS hAo ⟨Nat.le_of_ble_eq_true rfl, Nat.le_of_ble_eq_true rfl⟩ hl.1 rfl (Nat.le_of_ble_eq_true rfl) dL_isPound_14) ?_
  refine lv_isub hx hb dL_isPound_17 ?_
  refine lv_istore (lv' := [(4, .int ((roofV σ.1 r 2) - (roofV σ.1 r 3))), (2, .long (digV σ.1)), (0, .ref o), (1, .int (nI r))]) hx hb dL_isPound_18 hl (by decide) rfl (fun ls hl => ?_)
  have hJ_20 : ∀ v9 : Int32, v9 = bI (poB σ.1 r) → W p l e ({ frames := 9, cells := 50, slots := 6500, locals := 225 } : Room) s m ([.ref o, .int (nI r)] : List Value).toArray below meth c s.heap [] 0 0 (MQ below (qM (fun v H => v = some (.int 1) ∧ ∃ τ, Nx (N + 2) σ τ ∧ SBH X cm o τ H) (gA X)) ([.ref o, .int (nI r)] : List Value).toArray s 50 6500 (gA X)) (F0 m 49 ls (.int v9 :: [])) := by
    intro v9 hv9
    subst hv9
    refine lv_istore (lv' := [(5, .int (bI (poB σ.1 r))), (4, .int ((roofV σ.1 r 2) - (roofV σ.1 r 3))), (2, .long (digV σ.1)), (0, .ref o), (1, .int (nI r))]) hx hb dL_isPound_49 hl (by decide) rfl (fun ls hl => ?_)
    refine lv_aload_n hx hb dL_isPound_51 rfl (lv_at hl 3 rfl) ?_
    refine lv_iload_n hx hb dL_isPound_52 rfl (lv_at hl 4 rfl) ?_
    refine core_m (A1 := gA X) (grV (Bh := (SBH X cm o σ)) (n := 1) (As := [.int (nI r)]) (rest := []) h0 hF (m_X9_pound h0 (cm := cm) (o := o) (σ := σ) hC hO hP (nI r)) wm_L_54 wo_X9_pound ws_X9__X9_pound wz_X9 wc_X9_pound ⟨by decide, by decide, by decide +kernel⟩ rfl ⟨Nat.le_of_ble_eq_true rfl, Nat.le_of_ble_eq_true rfl⟩ (ci := 8) (SBH.rec hB) rfl hB hS hAo ⟨Nat.le_of_ble_eq_true rfl, Nat.le_of_ble_eq_true rfl⟩ hl.1 rfl (Nat.le_of_ble_eq_true rfl) dL_isPound_53) hS (fun q h8 => h8) (fun v' H locs hq' hz1 hk1 hS => ?_)
    obtain ⟨rfl, hB⟩ := hq'
    obtain ⟨τ, hτ, hB⟩ : ∃ τ, τ = sbChg σ (oCmd σ.1 σ.2.2.2.2.1 8 (nI r) 0 0) ∧ SBH X cm o τ H := ⟨_, rfl, hB⟩
    have hGτ : GI (N + 1) τ := by rw [hτ]; exact hI.chg (by omega) 8 _ _ _
    have hOτ := hGτ.O
    have hOcτ := hGτ.Oc
    have hPτ := hGτ.P
    have hWτ := hGτ.2.1.well hGτ.1
    have hExτ := hGτ.2.1.exempt hGτ.1
    have hRFτ := hGτ.2.1.RF hGτ.1
    have hO1τ := hOτ.1
    have hO2τ := hOτ.2.1
    have hO3τ := hOτ.2.2.1
    have hc1 : τ.1 = (oCmd σ.1 σ.2.2.2.2.1 8 (nI r) 0 0).2.1 ∧ τ.2.1 = σ.2.1 ∧ τ.2.2.2.1 2 = σ.2.2.2.1 2 := by rw [hτ]; exact chg_1
    refine lv_istore (lv' := [(6, .int ((oCmd σ.1 σ.2.2.2.2.1 8 (nI r) 0 0).1)), (5, .int (bI (poB σ.1 r))), (4, .int ((roofV σ.1 r 2) - (roofV σ.1 r 3))), (2, .long (digV σ.1)), (0, .ref o), (1, .int (nI r))]) hx hb dL_isPound_56 hl (by decide) rfl (fun ls hl => ?_)
    refine lv_iload hx hb dL_isPound_58 (lv_at hl 0 rfl) ?_
    refine lv_bipush (v := (-3)) hx hb dL_isPound_60 (by decide) ?_
    refine lv_icmp_ne (tgt := 85) hx hb dL_isPound_62 (by decide) (fun c_62 => ?_) (fun c_62 => ?_)
    · obtain ⟨ht1, ht2, ht3, ht4, ht5⟩ := hpd.resolve_left (fun h => c_62 h.1)
      rw [← hc1.1] at ht4 ht5
      have hrt : r < τ.1.2 1 := by rw [congrFun ht5 1]; exact hrr
      have hcτ : 0 < τ.2.2.2.1 0 := by rw [hτ]; exact (chg_back hP ht1).1
      refine lv_iload hx hb dL_isPound_85 (lv_at hl 1 rfl) ?_
      refine lv_if_eq (tgt := 123) hx hb dL_isPound_87 (by decide) (fun c_87 => absurd c_87 (bI_n0.mpr ht2)) (fun c_87 => ?_)
      have n_87 := bI_n0.mp c_87
      refine lv_iload hx hb dL_isPound_90 (lv_at hl 0 rfl) ?_
      refine lv_iload hx hb dL_isPound_92 (lv_at hl 2 rfl) ?_
      refine lv_icmp_ne (tgt := 123) hx hb dL_isPound_94 (by decide) (fun c_94 => absurd ht3 c_94) (fun c_94 => ?_)
      refine lv_aload_n hx hb dL_isPound_97 rfl (lv_at hl 4 rfl) ?_
      refine lv_iload_n hx hb dL_isPound_98 rfl (lv_at hl 5 rfl) ?_
      refine lv_iconst (v := 3) hx hb dL_isPound_99 (by decide) ?_
      refine core_p (v := .int (roofV τ.1 r 3)) (grV (n := 2) (As := [.int (nI r), .int 3]) (rest := []) h0 hF (m_X9_roofOf_3 h0 (cm := cm) (o := o) (σ := τ) hOτ (nI r) r rfl (by omega)) wm_L_98 wo_X9_roofOf ws_X9__X9_roofOf wz_X9 wc_X9_roofOf ⟨by decide, by decide, by decide +kernel⟩ rfl ⟨Nat.le_of_ble_eq_true rfl, Nat.le_of_ble_eq_true rfl⟩ (ci := 8) (SBH.rec hB) rfl hB hS hAo ⟨Nat.le_of_ble_eq_true rfl, Nat.le_of_ble_eq_true rfl⟩ hl.1 rfl (Nat.le_of_ble_eq_true rfl) dL_isPound_100) ?_
      refine lv_aload_n hx hb dL_isPound_103 rfl (lv_at hl 4 rfl) ?_
      refine lv_iload_n hx hb dL_isPound_104 rfl (lv_at hl 5 rfl) ?_
      refine lv_iconst (v := 2) hx hb dL_isPound_105 (by decide) ?_
      refine core_p (v := .int (roofV τ.1 r 2)) (grV (n := 2) (As := [.int (nI r), .int 2]) (rest := [.int (roofV τ.1 r 3)]) h0 hF (m_X9_roofOf_2 h0 (cm := cm) (o := o) (σ := τ) hOτ (nI r) r rfl (by omega)) wm_L_98 wo_X9_roofOf ws_X9__X9_roofOf wz_X9 wc_X9_roofOf ⟨by decide, by decide, by decide +kernel⟩ rfl ⟨Nat.le_of_ble_eq_true rfl, Nat.le_of_ble_eq_true rfl⟩ (ci := 8) (SBH.rec hB) rfl hB hS hAo ⟨Nat.le_of_ble_eq_true rfl, Nat.le_of_ble_eq_true rfl⟩ hl.1 rfl (Nat.le_of_ble_eq_true rfl) dL_isPound_106) ?_
      refine lv_icmp_ne (tgt := 123) hx hb dL_isPound_109 (by decide) (fun c_109 => absurd ht4 c_109) (fun c_109 => ?_)
      refine lv_aload_n hx hb dL_isPound_112 rfl (lv_at hl 4 rfl) ?_
      refine core_m (A1 := gA X) (grS (Bh := (SBH X cm o τ)) (n := 1) (As := [.ref o]) (rest := []) h0 hF (m_L_areRoofs h0 (cm := cm) (o := o) (σ := τ) hOτ hWτ hRFτ) wm_L_174 wt_L_areRoofs wz_L wc_L_areRoofs ⟨by decide, by decide, by decide +kernel⟩ rfl ⟨Nat.le_of_ble_eq_true rfl, Nat.le_of_ble_eq_true rfl⟩ hB hS hAo ⟨Nat.le_of_ble_eq_true rfl, Nat.le_of_ble_eq_true rfl⟩ hl.1 rfl (Nat.le_of_ble_eq_true rfl) dL_isPound_113) hS (fun q h8 => h8) (fun v' H locs hq' hz1 hk1 hS => ?_)
      obtain ⟨rfl, hB⟩ := hq'
      refine lv_if_eq (tgt := 123) hx hb dL_isPound_116 (by decide) (fun c_116 => absurd c_116 (by decide)) (fun c_116 => ?_)
      refine lv_iconst (v := 1) hx hb dL_isPound_119 (by decide) ?_
      refine lv_goto (tgt := 124) hx hb dL_isPound_120 (by decide) ?_
      refine lv_istore (lv' := [(7, .int 1), (6, .int ((oCmd σ.1 σ.2.2.2.2.1 8 (nI r) 0 0).1)), (5, .int (bI (poB σ.1 r))), (4, .int ((roofV σ.1 r 2) - (roofV σ.1 r 3))), (2, .long (digV σ.1)), (0, .ref o), (1, .int (nI r))]) hx hb dL_isPound_124 hl (by decide) rfl (fun ls hl => ?_)
      refine lv_iconst (v := 0) hx hb dL_isPound_126 (by decide) ?_
      refine lv_istore (lv' := [(8, .int 0), (7, .int 1), (6, .int ((oCmd σ.1 σ.2.2.2.2.1 8 (nI r) 0 0).1)), (5, .int (bI (poB σ.1 r))), (4, .int ((roofV σ.1 r 2) - (roofV σ.1 r 3))), (2, .long (digV σ.1)), (0, .ref o), (1, .int (nI r))]) hx hb dL_isPound_127 hl (by decide) rfl (fun ls hl => ?_)
      refine lv_iconst (v := 0) hx hb dL_isPound_129 (by decide) ?_
      refine lv_istore (lv' := [(9, .int 0), (8, .int 0), (7, .int 1), (6, .int ((oCmd σ.1 σ.2.2.2.2.1 8 (nI r) 0 0).1)), (5, .int (bI (poB σ.1 r))), (4, .int ((roofV σ.1 r 2) - (roofV σ.1 r 3))), (2, .long (digV σ.1)), (0, .ref o), (1, .int (nI r))]) hx hb dL_isPound_130 hl (by decide) rfl (fun ls hl => ?_)
      have key_132 : ∀ (nf q : Nat), q + nf = τ.1.2 2 → ∀ (ρ : Sb) (u : Nat), (GI (N + 2) ρ ∧ ρ.1.2 = τ.1.2 ∧ (ρ.2.1 = τ.2.1 ∧ ρ.2.2.2.1 2 = τ.2.2.2.1 2) ∧ (u = 0 ∧ ρ = τ ∨ u = 1 ∧ ∃ R' : R3, ¬ R'.1 < 0 ∧ ρ = sbChg τ R')) → ∀ (H : Heap) (locs : List Loc), SBH X cm o ρ H → va_S (gA X) s.heap H locs → ∀ (ls : Array Slot), lv_has ls 13 [(0, .ref o), (1, .int (nI r)), (2, .long (digV σ.1)), (4, .int ((roofV σ.1 r 2) - (roofV σ.1 r 3))), (5, .int (bI (poB σ.1 r))), (6, .int ((oCmd σ.1 σ.2.2.2.2.1 8 (nI r) 0 0).1)), (7, .int 1), (8, .int (nI u)), (9, .int (nI q))] → W p l e ({ frames := 9, cells := 50, slots := 6500, locals := 225 } : Room) s m ([.ref o, .int (nI r)] : List Value).toArray below meth c H locs (0 + 50) (0 + 6500) (MQ below (qM (fun v H => v = some (.int 1) ∧ ∃ τ, Nx (N + 2) σ τ ∧ SBH X cm o τ H) (gA X)) ([.ref o, .int (nI r)] : List Value).toArray s 50 6500 (gA X)) (F0 m 132 ls []) := by
        intro nf
        induction nf with
        | zero =>
          intro q hq ρ u hx_q H locs hB hS ls hl
          have hq_e : q = τ.1.2 2 := by omega
          obtain ⟨hGρ, hρ2, hρs, hρu⟩ := hx_q
          have hOρ := hGρ.O
          have hPρ := hGρ.P
          refine lv_iload hx hb dL_isPound_132 (lv_at hl 6 rfl) ?_
          refine lv_if_eq (tgt := 252) hx hb dL_isPound_134 (by decide) (fun c_134 => absurd c_134 (by decide)) (fun c_134 => ?_)
          refine lv_iload hx hb dL_isPound_137 (lv_at hl 8 rfl) ?_
          refine lv_aload_n hx hb dL_isPound_139 rfl (lv_at hl 0 rfl) ?_
          refine lv_iconst (v := 2) hx hb dL_isPound_140 (by decide) ?_
          refine core_p (v := .int (nI (ρ.1.2 2))) (grV (n := 1) (As := [.int 2]) (rest := [.int (nI q)]) h0 hF (m_X9_account_2 h0 (cm := cm) (o := o) (σ := ρ) hOρ) wm_L_89 wo_X9_account ws_X9__X9_account wz_X9 wc_X9_account ⟨by decide, by decide, by decide +kernel⟩ rfl ⟨Nat.le_of_ble_eq_true rfl, Nat.le_of_ble_eq_true rfl⟩ (ci := 8) (SBH.rec hB) rfl hB hS hAo ⟨Nat.le_of_ble_eq_true rfl, Nat.le_of_ble_eq_true rfl⟩ hl.1 rfl (Nat.le_of_ble_eq_true rfl) dL_isPound_141) ?_
          refine lv_icmp_ge (tgt := 252) hx hb dL_isPound_144 (by decide) (fun c_144 => ?_) (fun c_144 => absurd (by rw [congrFun hρ2 2]; exact nI_le (a := τ.1.2 2) (b := q) (by omega) (by omega)) c_144)
          have n_144 := Int32.not_lt.mpr c_144
          refine lv_iload hx hb dL_isPound_252 (lv_at hl 6 rfl) ?_
          refine lv_if_eq (tgt := 289) hx hb dL_isPound_254 (by decide) (fun c_254 => absurd c_254 (by decide)) (fun c_254 => ?_)
          refine lv_iload hx hb dL_isPound_257 (lv_at hl 7 rfl) ?_
          refine lv_if_eq (tgt := 269) hx hb dL_isPound_259 (by decide) (fun c_259 => ?_) (fun c_259 => ?_)
          · have hρτ : ρ = τ := (hρu.resolve_right (fun h => absurd c_259 (by rw [h.1]; decide))).2
            have hcρ : 0 < ρ.2.2.2.1 0 := by rw [hρτ]; exact hcτ
            refine lv_aload_n hx hb dL_isPound_269 rfl (lv_at hl 0 rfl) ?_
            refine core_m (A1 := gA X) (grV (Bh := (SBH X cm o ρ)) (n := 0) (As := []) (rest := []) h0 hF (m_X9_undo h0 (cm := cm) (o := o) (σ := ρ) hPρ hcρ) wm_L_82 wo_X9_undo ws_X9__X9_undo wz_X9 wc_X9_undo ⟨by decide, by decide, by decide +kernel⟩ rfl ⟨Nat.le_of_ble_eq_true rfl, Nat.le_of_ble_eq_true rfl⟩ (ci := 8) (SBH.rec hB) rfl hB hS hAo ⟨Nat.le_of_ble_eq_true rfl, Nat.le_of_ble_eq_true rfl⟩ hl.1 rfl (Nat.le_of_ble_eq_true rfl) dL_isPound_270) hS (fun q h8 => h8) (fun v' H locs hq' hz1 hk1 hS => ?_)
            obtain ⟨rfl, hB⟩ := hq'
            obtain ⟨ν, hν, hB⟩ : ∃ ν, ν = sbBack ρ ∧ SBH X cm o ν H := ⟨_, rfl, hB⟩
            have hlt := nI_pos (n := ρ.2.2.2.1 0 - 1) (by have := hPρ.1; omega)
            have hGν := hGρ.back
            rw [← hν] at hGν
            have hOν := hGν.1.O
            have hν1 : ν.1 = σ.1 := by rw [hν, hρτ, hτ]; exact (chg_back hP ht1).2.1
            have hν2 : ν.2.1 = σ.2.1 ∧ ν.2.2.2.1 2 = σ.2.2.2.1 2 := ⟨hGν.2.1.trans (hρs.1.trans hc1.2.1), hGν.2.2.trans (hρs.2.trans hc1.2.2)⟩
            refine lv_if_lt (tgt := 289) hx hb dL_isPound_273 (by decide) (fun c_273 => absurd c_273 hlt) (fun c_273 => ?_)
            have n_273 := Int32.not_lt.mp c_273
            refine lv_aload_n hx hb dL_isPound_276 rfl (lv_at hl 0 rfl) ?_
            refine core_p (v := .long (digV ν.1)) (grS (n := 1) (As := [.ref o]) (rest := []) h0 hF (m_L_digest h0 (cm := cm) (o := o) (σ := ν) hOν ) wm_L_151 wt_L_digest wz_L wc_L_digest ⟨by decide, by decide, by decide +kernel⟩ rfl ⟨Nat.le_of_ble_eq_true rfl, Nat.le_of_ble_eq_true rfl⟩ hB hS hAo ⟨Nat.le_of_ble_eq_true rfl, Nat.le_of_ble_eq_true rfl⟩ hl.1 rfl (Nat.le_of_ble_eq_true rfl) dL_isPound_277) ?_
            refine lv_lload_n hx hb dL_isPound_280 rfl (lv_at hl 2 rfl) ?_
            refine W.lcmp hx hb dL_isPound_281 ?_
            refine lv_topE (y := 0) (by rw [hν1]; exact lg_cmp_self _) ?_
            refine lv_if_ne (tgt := 289) hx hb dL_isPound_282 (by decide) (fun c_282 => absurd c_282 (by decide)) (fun c_282 => ?_)
            refine lv_iconst (v := 1) hx hb dL_isPound_285 (by decide) ?_
            refine lv_goto (tgt := 290) hx hb dL_isPound_286 (by decide) ?_
            refine W.widen (k := 50) (n := 6500) (by omega) (by omega) ?_
            exact mm_zret hF hS dL_isPound_290 rfl (⟨rfl, ν, ⟨hGν.1, hν1, hν2.1, hν2.2⟩, hB⟩)
          · obtain ⟨-, R9, hR9, hρR⟩ := hρu.resolve_left (fun h => absurd (by rw [h.1]; rfl) c_259)
            have h2 := chg_back2 (R := (oCmd σ.1 σ.2.2.2.2.1 8 (nI r) 0 0)) (R' := R9) hP ht1 (by rw [← hτ]; exact hPτ) hR9
            rw [← hτ, ← hρR] at h2
            refine lv_aload_n hx hb dL_isPound_262 rfl (lv_at hl 0 rfl) ?_
            refine core_m (A1 := gA X) (grV (Bh := (SBH X cm o ρ)) (n := 0) (As := []) (rest := []) h0 hF (m_X9_undo h0 (cm := cm) (o := o) (σ := ρ) hPρ h2.2.1) wm_L_82 wo_X9_undo ws_X9__X9_undo wz_X9 wc_X9_undo ⟨by decide, by decide, by decide +kernel⟩ rfl ⟨Nat.le_of_ble_eq_true rfl, Nat.le_of_ble_eq_true rfl⟩ (ci := 8) (SBH.rec hB) rfl hB hS hAo ⟨Nat.le_of_ble_eq_true rfl, Nat.le_of_ble_eq_true rfl⟩ hl.1 rfl (Nat.le_of_ble_eq_true rfl) dL_isPound_263) hS (fun q h8 => h8) (fun v' H locs hq' hz1 hk1 hS => ?_)
            obtain ⟨rfl, hB⟩ := hq'
            obtain ⟨μ, hμ, hB⟩ : ∃ μ, μ = sbBack ρ ∧ SBH X cm o μ H := ⟨_, rfl, hB⟩
            have hGμ := hGρ.back
            rw [← hμ] at hGμ
            have hOμ := hGμ.1.O
            have hPμ := hGμ.1.P
            refine lv_if_lt (tgt := 289) hx hb dL_isPound_266 (by decide) (fun c_266 => absurd c_266 (nI_pos (by have := hPρ.1; omega))) (fun c_266 => ?_)
            have n_266 := Int32.not_lt.mp c_266
            refine lv_aload_n hx hb dL_isPound_269 rfl (lv_at hl 0 rfl) ?_
            refine core_m (A1 := gA X) (grV (Bh := (SBH X cm o μ)) (n := 0) (As := []) (rest := []) h0 hF (m_X9_undo h0 (cm := cm) (o := o) (σ := μ) hPμ (by rw [hμ]; exact h2.2.2.1)) wm_L_82 wo_X9_undo ws_X9__X9_undo wz_X9 wc_X9_undo ⟨by decide, by decide, by decide +kernel⟩ rfl ⟨Nat.le_of_ble_eq_true rfl, Nat.le_of_ble_eq_true rfl⟩ (ci := 8) (SBH.rec hB) rfl hB hS hAo ⟨Nat.le_of_ble_eq_true rfl, Nat.le_of_ble_eq_true rfl⟩ hl.1 rfl (Nat.le_of_ble_eq_true rfl) dL_isPound_270) hS (fun q h8 => h8) (fun v' H locs hq' hz1 hk1 hS => ?_)
            obtain ⟨rfl, hB⟩ := hq'
            obtain ⟨ν, hν, hB⟩ : ∃ ν, ν = sbBack μ ∧ SBH X cm o ν H := ⟨_, rfl, hB⟩
            have hlt := nI_pos (n := μ.2.2.2.1 0 - 1) (by have := hPμ.1; omega)
            have hGν := hGμ.1.back
            rw [← hν] at hGν
            have hOν := hGν.1.O
            have hν1 : ν.1 = σ.1 := by rw [hν, hμ]; exact h2.2.2.2
            have hν2 : ν.2.1 = σ.2.1 ∧ ν.2.2.2.1 2 = σ.2.2.2.1 2 := ⟨hGν.2.1.trans (hGμ.2.1.trans (hρs.1.trans hc1.2.1)), hGν.2.2.trans (hGμ.2.2.trans (hρs.2.trans hc1.2.2))⟩
            refine lv_if_lt (tgt := 289) hx hb dL_isPound_273 (by decide) (fun c_273 => absurd c_273 hlt) (fun c_273 => ?_)
            have n_273 := Int32.not_lt.mp c_273
            refine lv_aload_n hx hb dL_isPound_276 rfl (lv_at hl 0 rfl) ?_
            refine core_p (v := .long (digV ν.1)) (grS (n := 1) (As := [.ref o]) (rest := []) h0 hF (m_L_digest h0 (cm := cm) (o := o) (σ := ν) hOν ) wm_L_151 wt_L_digest wz_L wc_L_digest ⟨by decide, by decide, by decide +kernel⟩ rfl ⟨Nat.le_of_ble_eq_true rfl, Nat.le_of_ble_eq_true rfl⟩ hB hS hAo ⟨Nat.le_of_ble_eq_true rfl, Nat.le_of_ble_eq_true rfl⟩ hl.1 rfl (Nat.le_of_ble_eq_true rfl) dL_isPound_277) ?_
            refine lv_lload_n hx hb dL_isPound_280 rfl (lv_at hl 2 rfl) ?_
            refine W.lcmp hx hb dL_isPound_281 ?_
            refine lv_topE (y := 0) (by rw [hν1]; exact lg_cmp_self _) ?_
            refine lv_if_ne (tgt := 289) hx hb dL_isPound_282 (by decide) (fun c_282 => absurd c_282 (by decide)) (fun c_282 => ?_)
            refine lv_iconst (v := 1) hx hb dL_isPound_285 (by decide) ?_
            refine lv_goto (tgt := 290) hx hb dL_isPound_286 (by decide) ?_
            refine W.widen (k := 50) (n := 6500) (by omega) (by omega) ?_
            exact mm_zret hF hS dL_isPound_290 rfl (⟨rfl, ν, ⟨hGν.1, hν1, hν2.1, hν2.2⟩, hB⟩)
        | succ nf ih_132 =>
          intro q hq ρ u hx_q H locs hB hS ls hl
          have hq_l : q < τ.1.2 2 := by omega
          obtain ⟨hGρ, hρ2, hρs, hρu⟩ := hx_q
          have hOρ := hGρ.O
          have hPρ := hGρ.P
          have hqρ : q < ρ.1.2 2 := by rw [congrFun hρ2 2]; exact hq_l
          refine lv_iload hx hb dL_isPound_132 (lv_at hl 6 rfl) ?_
          refine lv_if_eq (tgt := 252) hx hb dL_isPound_134 (by decide) (fun c_134 => absurd c_134 (by decide)) (fun c_134 => ?_)
          refine lv_iload hx hb dL_isPound_137 (lv_at hl 8 rfl) ?_
          refine lv_aload_n hx hb dL_isPound_139 rfl (lv_at hl 0 rfl) ?_
          refine lv_iconst (v := 2) hx hb dL_isPound_140 (by decide) ?_
          refine core_p (v := .int (nI (ρ.1.2 2))) (grV (n := 1) (As := [.int 2]) (rest := [.int (nI q)]) h0 hF (m_X9_account_2 h0 (cm := cm) (o := o) (σ := ρ) hOρ) wm_L_89 wo_X9_account ws_X9__X9_account wz_X9 wc_X9_account ⟨by decide, by decide, by decide +kernel⟩ rfl ⟨Nat.le_of_ble_eq_true rfl, Nat.le_of_ble_eq_true rfl⟩ (ci := 8) (SBH.rec hB) rfl hB hS hAo ⟨Nat.le_of_ble_eq_true rfl, Nat.le_of_ble_eq_true rfl⟩ hl.1 rfl (Nat.le_of_ble_eq_true rfl) dL_isPound_141) ?_
          refine lv_icmp_ge (tgt := 252) hx hb dL_isPound_144 (by decide) (fun c_144 => absurd c_144 (by rw [congrFun hρ2 2]; exact nI_ge (a := q) (b := τ.1.2 2) (by omega) (by omega))) (fun c_144 => ?_)
          have n_144 := Int32.not_le.mp c_144
          refine lv_aload_n hx hb dL_isPound_147 rfl (lv_at hl 0 rfl) ?_
          refine lv_iload hx hb dL_isPound_148 (lv_at hl 8 rfl) ?_
          refine lv_iconst (v := 5) hx hb dL_isPound_150 (by decide) ?_
          refine core_p (v := .int (wishV ρ.1 q 5)) (grV (n := 2) (As := [.int (nI q), .int 5]) (rest := []) h0 hF (m_X9_wishOf_5 h0 (cm := cm) (o := o) (σ := ρ) hOρ (nI q) q rfl (by omega)) wm_L_104 wo_X9_wishOf ws_X9__X9_wishOf wz_X9 wc_X9_wishOf ⟨by decide, by decide, by decide +kernel⟩ rfl ⟨Nat.le_of_ble_eq_true rfl, Nat.le_of_ble_eq_true rfl⟩ (ci := 8) (SBH.rec hB) rfl hB hS hAo ⟨Nat.le_of_ble_eq_true rfl, Nat.le_of_ble_eq_true rfl⟩ hl.1 rfl (Nat.le_of_ble_eq_true rfl) dL_isPound_151) ?_
          refine lv_istore (lv' := [(10, .int (wishV ρ.1 q 5)), (0, .ref o), (1, .int (nI r)), (2, .long (digV σ.1)), (4, .int ((roofV σ.1 r 2) - (roofV σ.1 r 3))), (5, .int (bI (poB σ.1 r))), (6, .int ((oCmd σ.1 σ.2.2.2.2.1 8 (nI r) 0 0).1)), (7, .int 1), (8, .int (nI u)), (9, .int (nI q))]) hx hb dL_isPound_154 hl (by decide) rfl (fun ls hl => ?_)
          refine lv_aload_n hx hb dL_isPound_156 rfl (lv_at hl 1 rfl) ?_
          refine lv_aload_n hx hb dL_isPound_157 rfl (lv_at hl 1 rfl) ?_
          refine lv_iload hx hb dL_isPound_158 (lv_at hl 9 rfl) ?_
          refine lv_iconst (v := 0) hx hb dL_isPound_160 (by decide) ?_
          refine core_p (v := .int (ρ.1.1 14 q)) (grV (n := 2) (As := [.int (nI q), .int 0]) (rest := [.ref o]) h0 hF (m_X9_wishOf_0 h0 (cm := cm) (o := o) (σ := ρ) hOρ (nI q) q rfl (by omega)) wm_L_104 wo_X9_wishOf ws_X9__X9_wishOf wz_X9 wc_X9_wishOf ⟨by decide, by decide, by decide +kernel⟩ rfl ⟨Nat.le_of_ble_eq_true rfl, Nat.le_of_ble_eq_true rfl⟩ (ci := 8) (SBH.rec hB) rfl hB hS hAo ⟨Nat.le_of_ble_eq_true rfl, Nat.le_of_ble_eq_true rfl⟩ hl.1 rfl (Nat.le_of_ble_eq_true rfl) dL_isPound_161) ?_
          refine lv_iconst (v := 0) hx hb dL_isPound_164 (by decide) ?_
          refine core_p (v := .int (ρ.1.1 5 (wR ρ.1 q))) (grV (n := 2) (As := [.int (ρ.1.1 14 q), .int 0]) (rest := []) h0 hF (m_X9_roofOf_0 h0 (cm := cm) (o := o) (σ := ρ) hOρ (ρ.1.1 14 q) (wR ρ.1 q) ((hOρ.2.2.2.2.1 q hqρ).1) (hOρ.2.2.2.2.1 q hqρ).2) wm_L_98 wo_X9_roofOf ws_X9__X9_roofOf wz_X9 wc_X9_roofOf ⟨by decide, by decide, by decide +kernel⟩ rfl ⟨Nat.le_of_ble_eq_true rfl, Nat.le_of_ble_eq_true rfl⟩ (ci := 8) (SBH.rec hB) rfl hB hS hAo ⟨Nat.le_of_ble_eq_true rfl, Nat.le_of_ble_eq_true rfl⟩ hl.1 rfl (Nat.le_of_ble_eq_true rfl) dL_isPound_165) ?_
          refine lv_istore (lv' := [(11, .int (ρ.1.1 5 (wR ρ.1 q))), (10, .int (wishV ρ.1 q 5)), (0, .ref o), (1, .int (nI r)), (2, .long (digV σ.1)), (4, .int ((roofV σ.1 r 2) - (roofV σ.1 r 3))), (5, .int (bI (poB σ.1 r))), (6, .int ((oCmd σ.1 σ.2.2.2.2.1 8 (nI r) 0 0).1)), (7, .int 1), (8, .int (nI u)), (9, .int (nI q))]) hx hb dL_isPound_168 hl (by decide) rfl (fun ls hl => ?_)
          refine lv_iload hx hb dL_isPound_170 (lv_at hl 9 rfl) ?_
          refine lv_if_ne (tgt := 246) hx hb dL_isPound_172 (by decide) (fun c_172 => ?_) (fun c_172 => ?_)
          · refine lv_iinc (v := nI (q + 1)) (lv' := [(9, .int (nI (q + 1))), (11, .int (ρ.1.1 5 (wR ρ.1 q))), (10, .int (wishV ρ.1 q 5)), (0, .ref o), (1, .int (nI r)), (2, .long (digV σ.1)), (4, .int ((roofV σ.1 r 2) - (roofV σ.1 r 3))), (5, .int (bI (poB σ.1 r))), (6, .int ((oCmd σ.1 σ.2.2.2.2.1 8 (nI r) 0 0).1)), (7, .int 1), (8, .int (nI u))]) hx hb dL_isPound_246 hl (k := 10) rfl (nI_1 q) (by decide) rfl (fun ls hl => ?_)
            refine lv_goto (tgt := 132) hx hb dL_isPound_249 (by decide) ?_
            refine ih_132 (q + 1) (by omega) ρ u (⟨hGρ, hρ2, hρs, hρu⟩) _ _ hB hS ls (lv_eqv (lv_sub (l' := [(0, .ref o), (1, .int (nI r)), (2, .long (digV σ.1)), (4, .int ((roofV σ.1 r 2) - (roofV σ.1 r 3))), (5, .int (bI (poB σ.1 r))), (6, .int ((oCmd σ.1 σ.2.2.2.2.1 8 (nI r) 0 0).1)), (7, .int 1), (8, .int (nI u)), (9, .int (nI (q + 1)))]) hl [3, 4, 5, 6, 7, 8, 9, 10, 0] rfl) ?_)
            rfl
          · refine lv_iload hx hb dL_isPound_175 (lv_at hl 1 rfl) ?_
            refine lv_bipush (v := (-4)) hx hb dL_isPound_177 (by decide) ?_
            refine lv_icmp_eq (tgt := 246) hx hb dL_isPound_179 (by decide) (fun c_179 => ?_) (fun c_179 => ?_)
            · refine lv_iinc (v := nI (q + 1)) (lv' := [(9, .int (nI (q + 1))), (11, .int (ρ.1.1 5 (wR ρ.1 q))), (10, .int (wishV ρ.1 q 5)), (0, .ref o), (1, .int (nI r)), (2, .long (digV σ.1)), (4, .int ((roofV σ.1 r 2) - (roofV σ.1 r 3))), (5, .int (bI (poB σ.1 r))), (6, .int ((oCmd σ.1 σ.2.2.2.2.1 8 (nI r) 0 0).1)), (7, .int 1), (8, .int (nI u))]) hx hb dL_isPound_246 hl (k := 10) rfl (nI_1 q) (by decide) rfl (fun ls hl => ?_)
              refine lv_goto (tgt := 132) hx hb dL_isPound_249 (by decide) ?_
              refine ih_132 (q + 1) (by omega) ρ u (⟨hGρ, hρ2, hρs, hρu⟩) _ _ hB hS ls (lv_eqv (lv_sub (l' := [(0, .ref o), (1, .int (nI r)), (2, .long (digV σ.1)), (4, .int ((roofV σ.1 r 2) - (roofV σ.1 r 3))), (5, .int (bI (poB σ.1 r))), (6, .int ((oCmd σ.1 σ.2.2.2.2.1 8 (nI r) 0 0).1)), (7, .int 1), (8, .int (nI u)), (9, .int (nI (q + 1)))]) hl [3, 4, 5, 6, 7, 8, 9, 10, 0] rfl) ?_)
              rfl
            · refine lv_iload hx hb dL_isPound_182 (lv_at hl 1 rfl) ?_
              refine lv_iload hx hb dL_isPound_184 (lv_at hl 0 rfl) ?_
              refine lv_icmp_gt (tgt := 246) hx hb dL_isPound_186 (by decide) (fun c_186 => ?_) (fun c_186 => ?_)
              · have n_186 := Int32.not_le.mpr c_186
                refine lv_iinc (v := nI (q + 1)) (lv' := [(9, .int (nI (q + 1))), (11, .int (ρ.1.1 5 (wR ρ.1 q))), (10, .int (wishV ρ.1 q 5)), (0, .ref o), (1, .int (nI r)), (2, .long (digV σ.1)), (4, .int ((roofV σ.1 r 2) - (roofV σ.1 r 3))), (5, .int (bI (poB σ.1 r))), (6, .int ((oCmd σ.1 σ.2.2.2.2.1 8 (nI r) 0 0).1)), (7, .int 1), (8, .int (nI u))]) hx hb dL_isPound_246 hl (k := 10) rfl (nI_1 q) (by decide) rfl (fun ls hl => ?_)
                refine lv_goto (tgt := 132) hx hb dL_isPound_249 (by decide) ?_
                refine ih_132 (q + 1) (by omega) ρ u (⟨hGρ, hρ2, hρs, hρu⟩) _ _ hB hS ls (lv_eqv (lv_sub (l' := [(0, .ref o), (1, .int (nI r)), (2, .long (digV σ.1)), (4, .int ((roofV σ.1 r 2) - (roofV σ.1 r 3))), (5, .int (bI (poB σ.1 r))), (6, .int ((oCmd σ.1 σ.2.2.2.2.1 8 (nI r) 0 0).1)), (7, .int 1), (8, .int (nI u)), (9, .int (nI (q + 1)))]) hl [3, 4, 5, 6, 7, 8, 9, 10, 0] rfl) ?_)
                rfl
              · have n_186 := Int32.not_lt.mp c_186
                have hρτ : ρ = τ := (hρu.resolve_right (fun h => absurd c_172 (by rw [h.1]; decide))).2
                have hu0 : u = 0 := (hρu.resolve_right (fun h => absurd c_172 (by rw [h.1]; decide))).1
                have hrd := redeem_f hGρ.2.1 hGρ.1 ρ.2.2.2.2.1 hqρ c_179 n_186 _ rfl
                refine lv_aload_n hx hb dL_isPound_189 rfl (lv_at hl 2 rfl) ?_
                refine lv_iload hx hb dL_isPound_190 (lv_at hl 10 rfl) ?_
                refine lv_iconst (v := 0) hx hb dL_isPound_192 (by decide) ?_
                refine core_p (v := .int (ρ.1.1 14 q)) (grV (n := 2) (As := [.int (nI q), .int 0]) (rest := []) h0 hF (m_X9_wishOf_0 h0 (cm := cm) (o := o) (σ := ρ) hOρ (nI q) q rfl (by omega)) wm_L_104 wo_X9_wishOf ws_X9__X9_wishOf wz_X9 wc_X9_wishOf ⟨by decide, by decide, by decide +kernel⟩ rfl ⟨Nat.le_of_ble_eq_true rfl, Nat.le_of_ble_eq_true rfl⟩ (ci := 8) (SBH.rec hB) rfl hB hS hAo ⟨Nat.le_of_ble_eq_true rfl, Nat.le_of_ble_eq_true rfl⟩ hl.1 rfl (Nat.le_of_ble_eq_true rfl) dL_isPound_193) ?_
                refine lv_istore (lv' := [(12, .int (ρ.1.1 14 q)), (11, .int (ρ.1.1 5 (wR ρ.1 q))), (10, .int (wishV ρ.1 q 5)), (0, .ref o), (1, .int (nI r)), (2, .long (digV σ.1)), (4, .int ((roofV σ.1 r 2) - (roofV σ.1 r 3))), (5, .int (bI (poB σ.1 r))), (6, .int ((oCmd σ.1 σ.2.2.2.2.1 8 (nI r) 0 0).1)), (7, .int 1), (8, .int (nI u)), (9, .int (nI q))]) hx hb dL_isPound_196 hl (by decide) rfl (fun ls hl => ?_)
                refine lv_aload_n hx hb dL_isPound_198 rfl (lv_at hl 3 rfl) ?_
                refine lv_iload hx hb dL_isPound_199 (lv_at hl 11 rfl) ?_
                refine core_m (A1 := gA X) (grV (Bh := (SBH X cm o ρ)) (n := 1) (As := [.int (nI q)]) (rest := []) h0 hF (m_X9_redeem h0 (cm := cm) (o := o) (σ := ρ) hC hOρ hPρ (nI q)) wm_L_57 wo_X9_redeem ws_X9__X9_redeem wz_X9 wc_X9_redeem ⟨by decide, by decide, by decide +kernel⟩ rfl ⟨Nat.le_of_ble_eq_true rfl, Nat.le_of_ble_eq_true rfl⟩ (ci := 8) (SBH.rec hB) rfl hB hS hAo ⟨Nat.le_of_ble_eq_true rfl, Nat.le_of_ble_eq_true rfl⟩ hl.1 rfl (Nat.le_of_ble_eq_true rfl) dL_isPound_201) hS (fun q h8 => h8) (fun v' H locs hq' hz1 hk1 hS => ?_)
                obtain ⟨rfl, hB⟩ := hq'
                obtain ⟨κ, hκ, hB⟩ : ∃ κ, κ = sbChg ρ (oCmd ρ.1 ρ.2.2.2.2.1 9 (nI q) 0 0) ∧ SBH X cm o κ H := ⟨_, rfl, hB⟩
                have hGκ : GI (N + 2) κ := by rw [hκ, hρτ]; exact hGτ.chg hN 9 _ _ _
                have hOκ := hGκ.O
                have hck : κ.1 = (oCmd ρ.1 ρ.2.2.2.2.1 9 (nI q) 0 0).2.1 ∧ κ.2.1 = ρ.2.1 ∧ κ.2.2.2.1 2 = ρ.2.2.2.1 2 := by rw [hκ]; exact chg_1
                have hκ2 : κ.1.2 = τ.1.2 := by rw [hck.1, hrd.2.2.2.2.1]; exact hρ2
                have hqκ : q < κ.1.2 2 := by rw [congrFun hκ2 2]; exact hq_l
                have hrd3 := hrd.2.2.1
                have hrd4 := hrd.2.2.2.1
                rw [← hck.1] at hrd3 hrd4
                refine lv_iload hx hb dL_isPound_204 (lv_at hl 2 rfl) ?_
                refine lv_icmp_ne (tgt := 240) hx hb dL_isPound_206 (by decide) (fun c_206 => absurd hrd.2.1 c_206) (fun c_206 => ?_)
                refine lv_aload_n hx hb dL_isPound_209 rfl (lv_at hl 3 rfl) ?_
                refine lv_iload hx hb dL_isPound_210 (lv_at hl 0 rfl) ?_
                refine lv_iconst (v := 0) hx hb dL_isPound_212 (by decide) ?_
                refine core_p (v := .int (κ.1.1 5 (wR ρ.1 q))) (grV (n := 2) (As := [.int (ρ.1.1 14 q), .int 0]) (rest := []) h0 hF (m_X9_roofOf_0 h0 (cm := cm) (o := o) (σ := κ) hOκ (ρ.1.1 14 q) (wR ρ.1 q) ((hOρ.2.2.2.2.1 q hqρ).1) (by rw [congrFun hκ2 1, ← congrFun hρ2 1]; exact (hOρ.2.2.2.2.1 q hqρ).2)) wm_L_98 wo_X9_roofOf ws_X9__X9_roofOf wz_X9 wc_X9_roofOf ⟨by decide, by decide, by decide +kernel⟩ rfl ⟨Nat.le_of_ble_eq_true rfl, Nat.le_of_ble_eq_true rfl⟩ (ci := 8) (SBH.rec hB) rfl hB hS hAo ⟨Nat.le_of_ble_eq_true rfl, Nat.le_of_ble_eq_true rfl⟩ hl.1 rfl (Nat.le_of_ble_eq_true rfl) dL_isPound_213) ?_
                refine lv_iload hx hb dL_isPound_216 (lv_at hl 1 rfl) ?_
                refine lv_iload hx hb dL_isPound_218 (lv_at hl 2 rfl) ?_
                refine lv_isub hx hb dL_isPound_220 ?_
                refine lv_icmp_ne (tgt := 240) hx hb dL_isPound_221 (by decide) (fun c_221 => absurd hrd3 c_221) (fun c_221 => ?_)
                refine lv_aload_n hx hb dL_isPound_224 rfl (lv_at hl 3 rfl) ?_
                refine lv_iload hx hb dL_isPound_225 (lv_at hl 11 rfl) ?_
                refine lv_iconst (v := 4) hx hb dL_isPound_227 (by decide) ?_
                refine core_p (v := .int (κ.1.1 18 q)) (grV (n := 2) (As := [.int (nI q), .int 4]) (rest := []) h0 hF (m_X9_wishOf_4 h0 (cm := cm) (o := o) (σ := κ) hOκ (nI q) q rfl (by omega)) wm_L_104 wo_X9_wishOf ws_X9__X9_wishOf wz_X9 wc_X9_wishOf ⟨by decide, by decide, by decide +kernel⟩ rfl ⟨Nat.le_of_ble_eq_true rfl, Nat.le_of_ble_eq_true rfl⟩ (ci := 8) (SBH.rec hB) rfl hB hS hAo ⟨Nat.le_of_ble_eq_true rfl, Nat.le_of_ble_eq_true rfl⟩ hl.1 rfl (Nat.le_of_ble_eq_true rfl) dL_isPound_228) ?_
                refine lv_bipush (v := (-4)) hx hb dL_isPound_231 (by decide) ?_
                refine lv_icmp_ne (tgt := 240) hx hb dL_isPound_233 (by decide) (fun c_233 => absurd hrd4 c_233) (fun c_233 => ?_)
                refine lv_iconst (v := 1) hx hb dL_isPound_236 (by decide) ?_
                refine lv_goto (tgt := 241) hx hb dL_isPound_237 (by decide) ?_
                refine lv_istore (lv' := [(7, .int 1), (12, .int (ρ.1.1 14 q)), (11, .int (ρ.1.1 5 (wR ρ.1 q))), (10, .int (wishV ρ.1 q 5)), (0, .ref o), (1, .int (nI r)), (2, .long (digV σ.1)), (4, .int ((roofV σ.1 r 2) - (roofV σ.1 r 3))), (5, .int (bI (poB σ.1 r))), (6, .int ((oCmd σ.1 σ.2.2.2.2.1 8 (nI r) 0 0).1)), (8, .int (nI u)), (9, .int (nI q))]) hx hb dL_isPound_241 hl (by decide) rfl (fun ls hl => ?_)
                refine lv_iinc (v := nI (u + 1)) (lv' := [(8, .int (nI (u + 1))), (7, .int 1), (12, .int (ρ.1.1 14 q)), (11, .int (ρ.1.1 5 (wR ρ.1 q))), (10, .int (wishV ρ.1 q 5)), (0, .ref o), (1, .int (nI r)), (2, .long (digV σ.1)), (4, .int ((roofV σ.1 r 2) - (roofV σ.1 r 3))), (5, .int (bI (poB σ.1 r))), (6, .int ((oCmd σ.1 σ.2.2.2.2.1 8 (nI r) 0 0).1)), (9, .int (nI q))]) hx hb dL_isPound_243 hl (k := 10) rfl (nI_1 u) (by decide) rfl (fun ls hl => ?_)
                refine lv_iinc (v := nI (q + 1)) (lv' := [(9, .int (nI (q + 1))), (8, .int (nI (u + 1))), (7, .int 1), (12, .int (ρ.1.1 14 q)), (11, .int (ρ.1.1 5 (wR ρ.1 q))), (10, .int (wishV ρ.1 q 5)), (0, .ref o), (1, .int (nI r)), (2, .long (digV σ.1)), (4, .int ((roofV σ.1 r 2) - (roofV σ.1 r 3))), (5, .int (bI (poB σ.1 r))), (6, .int ((oCmd σ.1 σ.2.2.2.2.1 8 (nI r) 0 0).1))]) hx hb dL_isPound_246 hl (k := 11) rfl (nI_1 q) (by decide) rfl (fun ls hl => ?_)
                refine lv_goto (tgt := 132) hx hb dL_isPound_249 (by decide) ?_
                refine ih_132 (q + 1) (by omega) κ (u + 1) (⟨hGκ, hκ2, ⟨hck.2.1.trans hρs.1, hck.2.2.trans hρs.2⟩, Or.inr ⟨by omega, (oCmd ρ.1 ρ.2.2.2.2.1 9 (nI q) 0 0), hrd.1, by rw [hκ, ← hρτ]⟩⟩) _ _ hB hS ls (lv_eqv (lv_sub (l' := [(0, .ref o), (1, .int (nI r)), (2, .long (digV σ.1)), (4, .int ((roofV σ.1 r 2) - (roofV σ.1 r 3))), (5, .int (bI (poB σ.1 r))), (6, .int ((oCmd σ.1 σ.2.2.2.2.1 8 (nI r) 0 0).1)), (7, .int 1), (8, .int (nI (u + 1))), (9, .int (nI (q + 1)))]) hl [6, 7, 8, 9, 10, 11, 2, 1, 0] rfl) ?_)
                rfl
      exact key_132 (τ.1.2 2) 0 (by omega) τ 0 (⟨hGτ.mono (by omega) hN, rfl, ⟨rfl, rfl⟩, Or.inl ⟨rfl, rfl⟩⟩) _ _ hB hS ls (lv_sub hl [7, 8, 6, 5, 4, 3, 2, 1, 0] rfl)
    · obtain ⟨-, hs1, hs2⟩ := hpd.resolve_right (fun h => absurd (by rw [c_62]; decide) h.1)
      have hτ1 : τ.1 = σ.1 := hc1.1.trans hs2
      refine lv_iload hx hb dL_isPound_65 (lv_at hl 1 rfl) ?_
      refine lv_if_ne (tgt := 83) hx hb dL_isPound_67 (by decide) (fun c_67 => absurd (by rw [hs1]; rfl) c_67) (fun c_67 => ?_)
      have n_67 := bI_0.mp c_67
      refine lv_aload_n hx hb dL_isPound_70 rfl (lv_at hl 4 rfl) ?_
      refine core_p (v := .long (digV τ.1)) (grS (n := 1) (As := [.ref o]) (rest := []) h0 hF (m_L_digest h0 (cm := cm) (o := o) (σ := τ) hOτ ) wm_L_151 wt_L_digest wz_L wc_L_digest ⟨by decide, by decide, by decide +kernel⟩ rfl ⟨Nat.le_of_ble_eq_true rfl, Nat.le_of_ble_eq_true rfl⟩ hB hS hAo ⟨Nat.le_of_ble_eq_true rfl, Nat.le_of_ble_eq_true rfl⟩ hl.1 rfl (Nat.le_of_ble_eq_true rfl) dL_isPound_71) ?_
      refine lv_lload_n hx hb dL_isPound_74 rfl (lv_at hl 3 rfl) ?_
      refine W.lcmp hx hb dL_isPound_75 ?_
      refine lv_topE (y := 0) (by rw [hτ1]; exact lg_cmp_self _) ?_
      refine lv_if_ne (tgt := 83) hx hb dL_isPound_76 (by decide) (fun c_76 => absurd c_76 (by decide)) (fun c_76 => ?_)
      refine lv_iconst (v := 1) hx hb dL_isPound_79 (by decide) ?_
      refine lv_goto (tgt := 84) hx hb dL_isPound_80 (by decide) ?_
      refine W.widen (k := 50) (n := 6500) (by omega) (by omega) ?_
      exact mm_zret hF hS dL_isPound_84 rfl (⟨rfl, τ, ⟨hGτ.mono (by omega) hN, hτ1, hc1.2.1, hc1.2.2⟩, hB⟩)
  refine lv_aload_n hx hb dL_isPound_20 rfl (lv_at hl 2 rfl) ?_
  refine lv_iload_n hx hb dL_isPound_21 rfl (lv_at hl 3 rfl) ?_
  refine lv_iconst (v := 1) hx hb dL_isPound_22 (by decide) ?_
  refine core_p (v := .int (σ.1.1 7 r)) (grV (n := 2) (As := [.int (nI r), .int 1]) (rest := []) h0 hF (m_X9_roofOf_1 h0 (cm := cm) (o := o) (σ := σ) hO (nI r) r rfl (by omega)) wm_L_98 wo_X9_roofOf ws_X9__X9_roofOf wz_X9 wc_X9_roofOf ⟨by decide, by decide, by decide +kernel⟩ rfl ⟨Nat.le_of_ble_eq_true rfl, Nat.le_of_ble_eq_true rfl⟩ (ci := 8) (SBH.rec hB) rfl hB hS hAo ⟨Nat.le_of_ble_eq_true rfl, Nat.le_of_ble_eq_true rfl⟩ hl.1 rfl (Nat.le_of_ble_eq_true rfl) dL_isPound_23) ?_
  refine lv_if_ne (tgt := 48) hx hb dL_isPound_26 (by decide) (fun c_26 => ?_) (fun c_26 => ?_)
  · refine lv_iconst (v := 0) hx hb dL_isPound_48 (by decide) ?_
    exact hJ_20 _ (by simp [bI, poB, c_26])
  · refine lv_aload_n hx hb dL_isPound_29 rfl (lv_at hl 2 rfl) ?_
    refine lv_iload_n hx hb dL_isPound_30 rfl (lv_at hl 3 rfl) ?_
    refine core_p (v := .int (σ.1.1 6 r)) (grV (n := 1) (As := [.int (nI r)]) (rest := []) h0 hF (m_X9_debt h0 (cm := cm) (o := o) (σ := σ) hO (nI r) r rfl (by omega)) wm_L_101 wo_X9_debt ws_X9__X9_debt wz_X9 wc_X9_debt ⟨by decide, by decide, by decide +kernel⟩ rfl ⟨Nat.le_of_ble_eq_true rfl, Nat.le_of_ble_eq_true rfl⟩ (ci := 8) (SBH.rec hB) rfl hB hS hAo ⟨Nat.le_of_ble_eq_true rfl, Nat.le_of_ble_eq_true rfl⟩ hl.1 rfl (Nat.le_of_ble_eq_true rfl) dL_isPound_31) ?_
    refine lv_bipush (v := 10) hx hb dL_isPound_34 (by decide) ?_
    refine lv_icmp_lt (tgt := 48) hx hb dL_isPound_36 (by decide) (fun c_36 => ?_) (fun c_36 => ?_)
    · have n_36 := Int32.not_le.mpr c_36
      refine lv_iconst (v := 0) hx hb dL_isPound_48 (by decide) ?_
      exact hJ_20 _ (by simp [bI, poB, c_26, c_36, n_36])
    · have n_36 := Int32.not_lt.mp c_36
      refine lv_iload hx hb dL_isPound_39 (lv_at hl 0 rfl) ?_
      refine lv_if_le (tgt := 48) hx hb dL_isPound_41 (by decide) (fun c_41 => ?_) (fun c_41 => ?_)
      · have n_41 := Int32.not_lt.mpr c_41
        refine lv_iconst (v := 0) hx hb dL_isPound_48 (by decide) ?_
        exact hJ_20 _ (by simp [bI, poB, c_26, c_36, n_36, c_41, n_41])
      · have n_41 := Int32.not_le.mp c_41
        refine lv_iconst (v := 1) hx hb dL_isPound_44 (by decide) ?_
        refine lv_goto (tgt := 49) hx hb dL_isPound_45 (by decide) ?_
        exact hJ_20 _ (by simp [bI, poB, c_26, c_36, n_36, c_41, n_41])
