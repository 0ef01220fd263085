theorem SGF.neg {k k' : Sk} {r i : Nat} {a : Int32} {E' : Nat → Int32} (h : SGF k r i a k' E') (ha : a = -3) : (k.1 12 r >>> (nI i &&& 31)) &&& 1 = 1 ∧ E' 0 = 3 ∧ E' 1 = bcI (k.1 12 r) ∧ k' = k := by
  rcases h with h | h
  · exact h.2
  · exact absurd (by rw [ha]; decide) h.1
theorem SGF.pos {k k' : Sk} {r i : Nat} {a : Int32} {E' : Nat → Int32} (h : SGF k r i a k' E') (ha : ¬ a = -3) : ¬ a < 0 ∧ (k.1 12 r >>> (nI i &&& 31)) &&& 1 = 0 ∧ a = levI k (nI r) i ∧ k'.1 5 r = k.1 5 r - payI (k.1 5 r) (levI k (nI r) i) ∧ k'.1 6 r = k.1 6 r + levI k (nI r) i - payI (k.1 5 r) (levI k (nI r) i) ∧ k'.1 12 r = k.1 12 r ||| (1 <<< (nI i &&& 31)) ∧
    (¬ k.1 2 i = -4 → ¬ k.1 2 i = nI r → k'.1 5 (tn (k.1 2 i)) = k.1 5 (tn (k.1 2 i)) + payI (k.1 5 r) (levI k (nI r) i) / 2) ∧ (k'.1 13 r >>> (nI i &&& 31)) &&& 1 = bI (isSeen k' i) ∧ k'.2 = k.2 := by
  rcases h with h | h
  · exact absurd h.1 ha
  · exact h

set_option maxHeartbeats 4000000 in
set_option maxRecDepth 100000 in
theorem m_L_isSighted {X : Cx} {l : Launch} (h0 : Init X) {cm : Nat → Nat} {o : Nat} {σ : Sb} {sm N : Nat} (hC : StC X cm sm) (hI : GI N σ) (hN : N + 1 ≤ 1000000) {r i : Nat} (hrr : r < σ.1.2 1) (hii : i < σ.1.2 0) : MM X l yL_isSighted cL_isSighted 14 (some .boolean) 7 191 0 0 [.ref o, .int (nI r), .int (nI i)] (SBH X cm o σ) (fun v H => v = some (.int 1) ∧ ∃ τ, Nx (N + 1) σ τ ∧ SBH X cm o τ H) (gA X) := by
  refine Met.mk (Bh := (SBH X cm o σ)) (by decide) (Nat.le_of_ble_eq_true rfl) ?_
  intro p e s m below meth c ls hF hB hl
  have hl : lv_has ls 14 [(0, .ref o), (1, .int (nI r)), (2, .int (nI i))] := hl
  obtain ⟨hx, hb, hml, hr, hlk, hown, hG⟩ := id hF
  have hK := hG.K h0
  have hS : va_S (gA X) s.heap s.heap [] := va_S.rf
  have hAo : ∀ q, q < X.z → ¬ gA X q := fun q h9 (h8 : X.z ≤ q) => by omega
  have hO := hI.O
  have hOc := hI.Oc
  have hP := hI.P
  have hO1 := hO.1
  have hO2 := hO.2.1
  have hO3 := hO.2.2.1
  have hSG := sight_f hI.2.1 hI.1 σ.2.2.2.2.1 hrr hii
  have hcl := fun h : ¬ σ.1.1 2 i = -4 => (hI.2.1.2.2.2.1 i hii).resolve_left h
  refine lv_aload_n hx hb dL_isSighted_0 rfl (lv_at hl 0 rfl) ?_
  refine core_p (v := .long (digV σ.1)) (grS (n := 1) (As := [.ref o]) (rest := []) h0 hF (m_L_digest h0 (cm := cm) (o := o) (σ := σ) hO ) wm_L_151 wt_L_digest wz_L wc_L_digest ⟨by decide, by decide, by decide +kernel⟩ rfl ⟨Nat.le_of_ble_eq_true rfl, Nat.le_of_ble_eq_true rfl⟩ hB hS hAo ⟨Nat.le_of_ble_eq_true rfl, Nat.le_of_ble_eq_true rfl⟩ hl.1 rfl (Nat.le_of_ble_eq_true rfl) dL_isSighted_1) ?_
  refine lv_lstore_n (lv' := [(3, .long (digV σ.1)), (0, .ref o), (1, .int (nI r)), (2, .int (nI i))]) hx hb dL_isSighted_4 rfl hl (by decide) rfl (fun ls hl => ?_)
  refine lv_aload_n hx hb dL_isSighted_5 rfl (lv_at hl 1 rfl) ?_
  refine lv_iload_n hx hb dL_isSighted_6 rfl (lv_at hl 2 rfl) ?_
  refine lv_iload_n hx hb dL_isSighted_7 rfl (lv_at hl 3 rfl) ?_
  refine core_p (v := .int (levI σ.1 (nI r) i)) (grV (n := 2) (As := [.int (nI r), .int (nI i)]) (rest := []) h0 hF (m_X9_levy h0 (cm := cm) (o := o) (σ := σ) hO (nI r) r rfl (by omega) (nI i) i rfl (by omega)) wm_L_107 wo_X9_levy ws_X9__X9_levy wz_X9 wc_X9_levy ⟨by decide, by decide, by decide +kernel⟩ rfl ⟨Nat.le_of_ble_eq_true rfl, Nat.le_of_ble_eq_true rfl⟩ (ci := 8) (SBH.rec hB) rfl hB hS hAo ⟨Nat.le_of_ble_eq_true rfl, Nat.le_of_ble_eq_true rfl⟩ hl.1 rfl (Nat.le_of_ble_eq_true rfl) dL_isSighted_8) ?_
  refine lv_istore (lv' := [(5, .int (levI σ.1 (nI r) i)), (3, .long (digV σ.1)), (0, .ref o), (1, .int (nI r)), (2, .int (nI i))]) hx hb dL_isSighted_11 hl (by decide) rfl (fun ls hl => ?_)
  refine lv_aload_n hx hb dL_isSighted_13 rfl (lv_at hl 2 rfl) ?_
  refine lv_iload_n hx hb dL_isSighted_14 rfl (lv_at hl 3 rfl) ?_
  refine lv_iconst (v := 0) hx hb dL_isSighted_15 (by decide) ?_
  refine core_p (v := .int (σ.1.1 5 r)) (grV (n := 2) (As := [.int (nI r), .int 0]) (rest := []) h0 hF (m_X9_roofOf_0 h0 (cm := cm) (o := o) (σ := σ) hO (nI r) r rfl (by omega)) wm_L_98 wo_X9_roofOf ws_X9__X9_roofOf wz_X9 wc_X9_roofOf ⟨by decide, by decide, by decide +kernel⟩ rfl ⟨Nat.le_of_ble_eq_true rfl, Nat.le_of_ble_eq_true rfl⟩ (ci := 8) (SBH.rec hB) rfl hB hS hAo ⟨Nat.le_of_ble_eq_true rfl, Nat.le_of_ble_eq_true rfl⟩ hl.1 rfl (Nat.le_of_ble_eq_true rfl) dL_isSighted_16) ?_
  refine lv_istore (lv' := [(6, .int (σ.1.1 5 r)), (5, .int (levI σ.1 (nI r) i)), (3, .long (digV σ.1)), (0, .ref o), (1, .int (nI r)), (2, .int (nI i))]) hx hb dL_isSighted_19 hl (by decide) rfl (fun ls hl => ?_)
  refine lv_aload_n hx hb dL_isSighted_21 rfl (lv_at hl 3 rfl) ?_
  refine lv_iload_n hx hb dL_isSighted_22 rfl (lv_at hl 4 rfl) ?_
  refine core_p (v := .int (σ.1.1 6 r)) (grV (n := 1) (As := [.int (nI r)]) (rest := []) h0 hF (m_X9_debt h0 (cm := cm) (o := o) (σ := σ) hO (nI r) r rfl (by omega)) wm_L_101 wo_X9_debt ws_X9__X9_debt wz_X9 wc_X9_debt ⟨by decide, by decide, by decide +kernel⟩ rfl ⟨Nat.le_of_ble_eq_true rfl, Nat.le_of_ble_eq_true rfl⟩ (ci := 8) (SBH.rec hB) rfl hB hS hAo ⟨Nat.le_of_ble_eq_true rfl, Nat.le_of_ble_eq_true rfl⟩ hl.1 rfl (Nat.le_of_ble_eq_true rfl) dL_isSighted_23) ?_
  refine lv_istore (lv' := [(7, .int (σ.1.1 6 r)), (6, .int (σ.1.1 5 r)), (5, .int (levI σ.1 (nI r) i)), (3, .long (digV σ.1)), (0, .ref o), (1, .int (nI r)), (2, .int (nI i))]) hx hb dL_isSighted_26 hl (by decide) rfl (fun ls hl => ?_)
  refine lv_aload_n hx hb dL_isSighted_28 rfl (lv_at hl 4 rfl) ?_
  refine lv_iload_n hx hb dL_isSighted_29 rfl (lv_at hl 6 rfl) ?_
  refine lv_iconst (v := 3) hx hb dL_isSighted_30 (by decide) ?_
  refine core_p (v := .int (σ.1.1 2 i)) (grV (n := 2) (As := [.int (nI i), .int 3]) (rest := []) h0 hF (m_X9_starOf_3 h0 (cm := cm) (o := o) (σ := σ) hO (nI i) i rfl (by omega)) wm_L_95 wo_X9_starOf ws_X9__X9_starOf wz_X9 wc_X9_starOf ⟨by decide, by decide, by decide +kernel⟩ rfl ⟨Nat.le_of_ble_eq_true rfl, Nat.le_of_ble_eq_true rfl⟩ (ci := 8) (SBH.rec hB) rfl hB hS hAo ⟨Nat.le_of_ble_eq_true rfl, Nat.le_of_ble_eq_true rfl⟩ hl.1 rfl (Nat.le_of_ble_eq_true rfl) dL_isSighted_31) ?_
  refine lv_istore (lv' := [(8, .int (σ.1.1 2 i)), (7, .int (σ.1.1 6 r)), (6, .int (σ.1.1 5 r)), (5, .int (levI σ.1 (nI r) i)), (3, .long (digV σ.1)), (0, .ref o), (1, .int (nI r)), (2, .int (nI i))]) hx hb dL_isSighted_34 hl (by decide) rfl (fun ls hl => ?_)
  have hJ_36 : ∀ v9 : Int32, v9 = (if σ.1.1 2 i = -4 then 0 else σ.1.1 5 (tn (σ.1.1 2 i))) → W p l e ({ frames := 7, cells := 0, slots := 0, locals := 191 } : Room) s m ([.ref o, .int (nI r), .int (nI i)] : List Value).toArray below meth c s.heap [] 0 0 (MQ below (qM (fun v H => v = some (.int 1) ∧ ∃ τ, Nx (N + 1) σ τ ∧ SBH X cm o τ H) (gA X)) ([.ref o, .int (nI r), .int (nI i)] : List Value).toArray s 0 0 (gA X)) (F0 m 54 ls (.int v9 :: [])) := by
    intro v9 hv9
    subst hv9
    refine lv_istore (lv' := [(9, .int (if σ.1.1 2 i = -4 then 0 else σ.1.1 5 (tn (σ.1.1 2 i)))), (8, .int (σ.1.1 2 i)), (7, .int (σ.1.1 6 r)), (6, .int (σ.1.1 5 r)), (5, .int (levI σ.1 (nI r) i)), (3, .long (digV σ.1)), (0, .ref o), (1, .int (nI r)), (2, .int (nI i))]) hx hb dL_isSighted_54 hl (by decide) rfl (fun ls hl => ?_)
    refine lv_aload_n hx hb dL_isSighted_56 rfl (lv_at hl 6 rfl) ?_
    refine lv_iload_n hx hb dL_isSighted_57 rfl (lv_at hl 7 rfl) ?_
    refine lv_bipush (v := 7) hx hb dL_isSighted_58 (by decide) ?_
    refine core_p (v := .int (σ.1.1 12 r)) (grV (n := 2) (As := [.int (nI r), .int 7]) (rest := []) h0 hF (m_X9_roofOf_7 h0 (cm := cm) (o := o) (σ := σ) hO (nI r) r rfl (by omega)) wm_L_98 wo_X9_roofOf ws_X9__X9_roofOf wz_X9 wc_X9_roofOf ⟨by decide, by decide, by decide +kernel⟩ rfl ⟨Nat.le_of_ble_eq_true rfl, Nat.le_of_ble_eq_true rfl⟩ (ci := 8) (SBH.rec hB) rfl hB hS hAo ⟨Nat.le_of_ble_eq_true rfl, Nat.le_of_ble_eq_true rfl⟩ hl.1 rfl (Nat.le_of_ble_eq_true rfl) dL_isSighted_60) ?_
    refine lv_istore (lv' := [(10, .int (σ.1.1 12 r)), (9, .int (if σ.1.1 2 i = -4 then 0 else σ.1.1 5 (tn (σ.1.1 2 i)))), (8, .int (σ.1.1 2 i)), (7, .int (σ.1.1 6 r)), (6, .int (σ.1.1 5 r)), (5, .int (levI σ.1 (nI r) i)), (3, .long (digV σ.1)), (0, .ref o), (1, .int (nI r)), (2, .int (nI i))]) hx hb dL_isSighted_63 hl (by decide) rfl (fun ls hl => ?_)
    refine lv_aload_n hx hb dL_isSighted_65 rfl (lv_at hl 7 rfl) ?_
    refine lv_iload_n hx hb dL_isSighted_66 rfl (lv_at hl 8 rfl) ?_
    refine lv_iload_n hx hb dL_isSighted_67 rfl (lv_at hl 9 rfl) ?_
    refine core_m (A1 := gA X) (grV (Bh := (SBH X cm o σ)) (n := 2) (As := [.int (nI r), .int (nI i)]) (rest := []) h0 hF (m_X9_sight h0 (cm := cm) (o := o) (σ := σ) hC hO hP (nI r) (nI i)) wm_L_35 wo_X9_sight ws_X9__X9_sight wz_X9 wc_X9_sight ⟨by decide, by decide, by decide +kernel⟩ rfl ⟨Nat.le_of_ble_eq_true rfl, Nat.le_of_ble_eq_true rfl⟩ (ci := 8) (SBH.rec hB) rfl hB hS hAo ⟨Nat.le_of_ble_eq_true rfl, Nat.le_of_ble_eq_true rfl⟩ hl.1 rfl (Nat.le_of_ble_eq_true rfl) dL_isSighted_68) hS (fun q h8 => h8) (fun v' H locs hq' hz1 hk1 hS => ?_)
    obtain ⟨rfl, hB⟩ := hq'
    obtain ⟨τ, hτ, hB⟩ : ∃ τ, τ = sbChg σ (oCmd σ.1 σ.2.2.2.2.1 3 (nI r) (nI i) 0) ∧ SBH X cm o τ H := ⟨_, rfl, hB⟩
    have hGτ : GI (N + 1) τ := by rw [hτ]; exact hI.chg hN 3 _ _ _
    have hOτ := hGτ.O
    have hPτ := hGτ.P
    have hc1 : τ.1 = (oCmd σ.1 σ.2.2.2.2.1 3 (nI r) (nI i) 0).2.1 ∧ τ.2.1 = σ.2.1 ∧ τ.2.2.2.1 2 = σ.2.2.2.1 2 := by rw [hτ]; exact chg_1
    refine lv_istore (lv' := [(11, .int ((oCmd σ.1 σ.2.2.2.2.1 3 (nI r) (nI i) 0).1)), (10, .int (σ.1.1 12 r)), (9, .int (if σ.1.1 2 i = -4 then 0 else σ.1.1 5 (tn (σ.1.1 2 i)))), (8, .int (σ.1.1 2 i)), (7, .int (σ.1.1 6 r)), (6, .int (σ.1.1 5 r)), (5, .int (levI σ.1 (nI r) i)), (3, .long (digV σ.1)), (0, .ref o), (1, .int (nI r)), (2, .int (nI i))]) hx hb dL_isSighted_71 hl (by decide) rfl (fun ls hl => ?_)
    refine lv_iload hx hb dL_isSighted_73 (lv_at hl 0 rfl) ?_
    refine lv_bipush (v := (-3)) hx hb dL_isSighted_75 (by decide) ?_
    refine lv_icmp_ne (tgt := 129) hx hb dL_isSighted_77 (by decide) (fun c_77 => ?_) (fun c_77 => ?_)
    · obtain ⟨ht1, ht2, ht3, ht4, ht5, ht6, ht7, ht8, ht9⟩ := hSG.pos c_77
      rw [← hc1.1] at ht4 ht5 ht6 ht7 ht8 ht9
      have hτ2 := congrFun ht9 1
      have hτ3 := congrFun ht9 0
      have hcτ : 0 < τ.2.2.2.1 0 := by rw [hτ]; exact (chg_back hP ht1).1
      refine lv_iload hx hb dL_isSighted_129 (lv_at hl 5 rfl) ?_
      refine lv_iload hx hb dL_isSighted_131 (lv_at hl 6 rfl) ?_
      refine va_mmin hx hb (by rw [hl.1]; exact hml) hown (hG.hts h0 _ _ wm_L_164) (hG.hts h0 _ _ wt_J9_min_7cf53) (hG.hts h0 _ _ wz_J9) (hG.hts h0 _ _ wc_J9_min_7cf53) (Nat.le_of_ble_eq_true rfl) (Nat.le_of_ble_eq_true rfl) (Nat.le_of_ble_eq_true rfl) (Nat.le_of_ble_eq_true rfl) dL_isSighted_133 ?_
      refine lv_topE (y := payI (σ.1.1 5 r) (levI σ.1 (nI r) i)) (rfl) ?_
      refine lv_istore (lv' := [(12, .int (payI (σ.1.1 5 r) (levI σ.1 (nI r) i))), (11, .int ((oCmd σ.1 σ.2.2.2.2.1 3 (nI r) (nI i) 0).1)), (10, .int (σ.1.1 12 r)), (9, .int (if σ.1.1 2 i = -4 then 0 else σ.1.1 5 (tn (σ.1.1 2 i)))), (8, .int (σ.1.1 2 i)), (7, .int (σ.1.1 6 r)), (6, .int (σ.1.1 5 r)), (5, .int (levI σ.1 (nI r) i)), (3, .long (digV σ.1)), (0, .ref o), (1, .int (nI r)), (2, .int (nI i))]) hx hb dL_isSighted_136 hl (by decide) rfl (fun ls hl => ?_)
      refine lv_iload hx hb dL_isSighted_138 (lv_at hl 2 rfl) ?_
      refine lv_iload_n hx hb dL_isSighted_140 rfl (lv_at hl 11 rfl) ?_
      refine lv_ishr hx hb dL_isSighted_141 ?_
      refine lv_iconst (v := 1) hx hb dL_isSighted_142 (by decide) ?_
      refine lv_iand hx hb dL_isSighted_143 ?_
      refine lv_if_ne (tgt := 204) hx hb dL_isSighted_144 (by decide) (fun c_144 => absurd ht2 c_144) (fun c_144 => ?_)
      refine lv_iload hx hb dL_isSighted_147 (lv_at hl 1 rfl) ?_
      refine lv_iload hx hb dL_isSighted_149 (lv_at hl 7 rfl) ?_
      refine lv_icmp_ne (tgt := 204) hx hb dL_isSighted_151 (by decide) (fun c_151 => absurd ht3 c_151) (fun c_151 => ?_)
      refine lv_aload_n hx hb dL_isSighted_154 rfl (lv_at hl 9 rfl) ?_
      refine lv_iload_n hx hb dL_isSighted_155 rfl (lv_at hl 10 rfl) ?_
      refine lv_iconst (v := 0) hx hb dL_isSighted_156 (by decide) ?_
      refine core_p (v := .int (τ.1.1 5 r)) (grV (n := 2) (As := [.int (nI r), .int 0]) (rest := []) h0 hF (m_X9_roofOf_0 h0 (cm := cm) (o := o) (σ := τ) hOτ (nI r) r rfl (by omega)) wm_L_98 wo_X9_roofOf ws_X9__X9_roofOf wz_X9 wc_X9_roofOf ⟨by decide, by decide, by decide +kernel⟩ rfl ⟨Nat.le_of_ble_eq_true rfl, Nat.le_of_ble_eq_true rfl⟩ (ci := 8) (SBH.rec hB) rfl hB hS hAo ⟨Nat.le_of_ble_eq_true rfl, Nat.le_of_ble_eq_true rfl⟩ hl.1 rfl (Nat.le_of_ble_eq_true rfl) dL_isSighted_157) ?_
      refine lv_iload hx hb dL_isSighted_160 (lv_at hl 6 rfl) ?_
      refine lv_iload hx hb dL_isSighted_162 (lv_at hl 0 rfl) ?_
      refine lv_isub hx hb dL_isSighted_164 ?_
      refine lv_icmp_ne (tgt := 204) hx hb dL_isSighted_165 (by decide) (fun c_165 => absurd ht4 c_165) (fun c_165 => ?_)
      refine lv_aload_n hx hb dL_isSighted_168 rfl (lv_at hl 9 rfl) ?_
      refine lv_iload_n hx hb dL_isSighted_169 rfl (lv_at hl 10 rfl) ?_
      refine core_p (v := .int (τ.1.1 6 r)) (grV (n := 1) (As := [.int (nI r)]) (rest := []) h0 hF (m_X9_debt h0 (cm := cm) (o := o) (σ := τ) hOτ (nI r) r rfl (by omega)) wm_L_101 wo_X9_debt ws_X9__X9_debt wz_X9 wc_X9_debt ⟨by decide, by decide, by decide +kernel⟩ rfl ⟨Nat.le_of_ble_eq_true rfl, Nat.le_of_ble_eq_true rfl⟩ (ci := 8) (SBH.rec hB) rfl hB hS hAo ⟨Nat.le_of_ble_eq_true rfl, Nat.le_of_ble_eq_true rfl⟩ hl.1 rfl (Nat.le_of_ble_eq_true rfl) dL_isSighted_170) ?_
      refine lv_iload hx hb dL_isSighted_173 (lv_at hl 5 rfl) ?_
      refine lv_iload hx hb dL_isSighted_175 (lv_at hl 7 rfl) ?_
      refine lv_iadd hx hb dL_isSighted_177 ?_
      refine lv_iload hx hb dL_isSighted_178 (lv_at hl 0 rfl) ?_
      refine lv_isub hx hb dL_isSighted_180 ?_
      refine lv_icmp_ne (tgt := 204) hx hb dL_isSighted_181 (by decide) (fun c_181 => absurd ht5 c_181) (fun c_181 => ?_)
      refine lv_aload_n hx hb dL_isSighted_184 rfl (lv_at hl 9 rfl) ?_
      refine lv_iload_n hx hb dL_isSighted_185 rfl (lv_at hl 10 rfl) ?_
      refine lv_bipush (v := 7) hx hb dL_isSighted_186 (by decide) ?_
      refine core_p (v := .int (τ.1.1 12 r)) (grV (n := 2) (As := [.int (nI r), .int 7]) (rest := []) h0 hF (m_X9_roofOf_7 h0 (cm := cm) (o := o) (σ := τ) hOτ (nI r) r rfl (by omega)) wm_L_98 wo_X9_roofOf ws_X9__X9_roofOf wz_X9 wc_X9_roofOf ⟨by decide, by decide, by decide +kernel⟩ rfl ⟨Nat.le_of_ble_eq_true rfl, Nat.le_of_ble_eq_true rfl⟩ (ci := 8) (SBH.rec hB) rfl hB hS hAo ⟨Nat.le_of_ble_eq_true rfl, Nat.le_of_ble_eq_true rfl⟩ hl.1 rfl (Nat.le_of_ble_eq_true rfl) dL_isSighted_188) ?_
      refine lv_iload hx hb dL_isSighted_191 (lv_at hl 2 rfl) ?_
      refine lv_iconst (v := 1) hx hb dL_isSighted_193 (by decide) ?_
      refine lv_iload_n hx hb dL_isSighted_194 rfl (lv_at hl 11 rfl) ?_
      refine lv_ishl hx hb dL_isSighted_195 ?_
      refine lv_ior hx hb dL_isSighted_196 ?_
      refine lv_icmp_ne (tgt := 204) hx hb dL_isSighted_197 (by decide) (fun c_197 => absurd ht6 c_197) (fun c_197 => ?_)
      refine lv_iconst (v := 1) hx hb dL_isSighted_200 (by decide) ?_
      refine lv_goto (tgt := 205) hx hb dL_isSighted_201 (by decide) ?_
      refine lv_istore (lv' := [(13, .int 1), (12, .int (payI (σ.1.1 5 r) (levI σ.1 (nI r) i))), (11, .int ((oCmd σ.1 σ.2.2.2.2.1 3 (nI r) (nI i) 0).1)), (10, .int (σ.1.1 12 r)), (9, .int (if σ.1.1 2 i = -4 then 0 else σ.1.1 5 (tn (σ.1.1 2 i)))), (8, .int (σ.1.1 2 i)), (7, .int (σ.1.1 6 r)), (6, .int (σ.1.1 5 r)), (5, .int (levI σ.1 (nI r) i)), (3, .long (digV σ.1)), (0, .ref o), (1, .int (nI r)), (2, .int (nI i))]) hx hb dL_isSighted_205 hl (by decide) rfl (fun ls hl => ?_)
      refine lv_iload hx hb dL_isSighted_207 (lv_at hl 0 rfl) ?_
      refine lv_if_eq (tgt := 266) hx hb dL_isSighted_209 (by decide) (fun c_209 => absurd c_209 (by decide)) (fun c_209 => ?_)
      refine lv_iload hx hb dL_isSighted_212 (lv_at hl 5 rfl) ?_
      refine lv_bipush (v := (-4)) hx hb dL_isSighted_214 (by decide) ?_
      refine lv_icmp_eq (tgt := 242) hx hb dL_isSighted_216 (by decide) (fun c_216 => ?_) (fun c_216 => ?_)
      · refine lv_aload_n hx hb dL_isSighted_242 rfl (lv_at hl 10 rfl) ?_
        refine lv_iload_n hx hb dL_isSighted_243 rfl (lv_at hl 11 rfl) ?_
        refine lv_bipush (v := 8) hx hb dL_isSighted_244 (by decide) ?_
        refine core_p (v := .int (τ.1.1 13 r)) (grV (n := 2) (As := [.int (nI r), .int 8]) (rest := []) h0 hF (m_X9_roofOf_8 h0 (cm := cm) (o := o) (σ := τ) hOτ (nI r) r rfl (by omega)) wm_L_98 wo_X9_roofOf ws_X9__X9_roofOf wz_X9 wc_X9_roofOf ⟨by decide, by decide, by decide +kernel⟩ rfl ⟨Nat.le_of_ble_eq_true rfl, Nat.le_of_ble_eq_true rfl⟩ (ci := 8) (SBH.rec hB) rfl hB hS hAo ⟨Nat.le_of_ble_eq_true rfl, Nat.le_of_ble_eq_true rfl⟩ hl.1 rfl (Nat.le_of_ble_eq_true rfl) dL_isSighted_246) ?_
        refine lv_iload_n hx hb dL_isSighted_249 rfl (lv_at hl 12 rfl) ?_
        refine lv_ishr hx hb dL_isSighted_250 ?_
        refine lv_iconst (v := 1) hx hb dL_isSighted_251 (by decide) ?_
        refine lv_iand hx hb dL_isSighted_252 ?_
        refine lv_aload_n hx hb dL_isSighted_253 rfl (lv_at hl 10 rfl) ?_
        refine lv_iload_n hx hb dL_isSighted_254 rfl (lv_at hl 12 rfl) ?_
        refine lv_iconst (v := 2) hx hb dL_isSighted_255 (by decide) ?_
        refine core_p (v := .int (bI (isSeen τ.1 i))) (grV (n := 2) (As := [.int (nI i), .int 2]) (rest := [.int (((τ.1.1 13 r) >>> ((nI i) &&& 31)) &&& 1)]) h0 hF (m_X9_starOf_2 h0 (cm := cm) (o := o) (σ := τ) hOτ (nI i) i rfl (by omega)) wm_L_95 wo_X9_starOf ws_X9__X9_starOf wz_X9 wc_X9_starOf ⟨by decide, by decide, by decide +kernel⟩ rfl ⟨Nat.le_of_ble_eq_true rfl, Nat.le_of_ble_eq_true rfl⟩ (ci := 8) (SBH.rec hB) rfl hB hS hAo ⟨Nat.le_of_ble_eq_true rfl, Nat.le_of_ble_eq_true rfl⟩ hl.1 rfl (Nat.le_of_ble_eq_true rfl) dL_isSighted_256) ?_
        refine lv_icmp_ne (tgt := 266) hx hb dL_isSighted_259 (by decide) (fun c_259 => absurd ht8 c_259) (fun c_259 => ?_)
        refine lv_iconst (v := 1) hx hb dL_isSighted_262 (by decide) ?_
        refine lv_goto (tgt := 267) hx hb dL_isSighted_263 (by decide) ?_
        refine lv_istore (lv' := [(13, .int 1), (12, .int (payI (σ.1.1 5 r) (levI σ.1 (nI r) i))), (11, .int ((oCmd σ.1 σ.2.2.2.2.1 3 (nI r) (nI i) 0).1)), (10, .int (σ.1.1 12 r)), (9, .int (if σ.1.1 2 i = -4 then 0 else σ.1.1 5 (tn (σ.1.1 2 i)))), (8, .int (σ.1.1 2 i)), (7, .int (σ.1.1 6 r)), (6, .int (σ.1.1 5 r)), (5, .int (levI σ.1 (nI r) i)), (3, .long (digV σ.1)), (0, .ref o), (1, .int (nI r)), (2, .int (nI i))]) hx hb dL_isSighted_267 hl (by decide) rfl (fun ls hl => ?_)
        refine lv_iload hx hb dL_isSighted_269 (lv_at hl 0 rfl) ?_
        refine lv_if_eq (tgt := 294) hx hb dL_isSighted_271 (by decide) (fun c_271 => absurd c_271 (by decide)) (fun c_271 => ?_)
        refine lv_aload_n hx hb dL_isSighted_274 rfl (lv_at hl 10 rfl) ?_
        refine core_m (A1 := gA X) (grV (Bh := (SBH X cm o τ)) (n := 0) (As := []) (rest := []) h0 hF (m_X9_undo h0 (cm := cm) (o := o) (σ := τ) hPτ hcτ) wm_L_82 wo_X9_undo ws_X9__X9_undo wz_X9 wc_X9_undo ⟨by decide, by decide, by decide +kernel⟩ rfl ⟨Nat.le_of_ble_eq_true rfl, Nat.le_of_ble_eq_true rfl⟩ (ci := 8) (SBH.rec hB) rfl hB hS hAo ⟨Nat.le_of_ble_eq_true rfl, Nat.le_of_ble_eq_true rfl⟩ hl.1 rfl (Nat.le_of_ble_eq_true rfl) dL_isSighted_275) hS (fun q h8 => h8) (fun v' H locs hq' hz1 hk1 hS => ?_)
        obtain ⟨rfl, hB⟩ := hq'
        obtain ⟨υ, hυ, hB⟩ : ∃ υ, υ = sbBack τ ∧ SBH X cm o υ H := ⟨_, rfl, hB⟩
        have hGυ := hGτ.back
        rw [← hυ] at hGυ
        have hOυ := hGυ.1.O
        have hυ1 : υ.1 = σ.1 := by rw [hυ, hτ]; exact (chg_back hP ht1).2.1
        refine lv_if_lt (tgt := 294) hx hb dL_isSighted_278 (by decide) (fun c_278 => absurd c_278 (nI_pos (by have := hPτ.1; omega))) (fun c_278 => ?_)
        have n_278 := Int32.not_lt.mp c_278
        refine lv_aload_n hx hb dL_isSighted_281 rfl (lv_at hl 10 rfl) ?_
        refine core_p (v := .long (digV υ.1)) (grS (n := 1) (As := [.ref o]) (rest := []) h0 hF (m_L_digest h0 (cm := cm) (o := o) (σ := υ) hOυ ) wm_L_151 wt_L_digest wz_L wc_L_digest ⟨by decide, by decide, by decide +kernel⟩ rfl ⟨Nat.le_of_ble_eq_true rfl, Nat.le_of_ble_eq_true rfl⟩ hB hS hAo ⟨Nat.le_of_ble_eq_true rfl, Nat.le_of_ble_eq_true rfl⟩ hl.1 rfl (Nat.le_of_ble_eq_true rfl) dL_isSighted_282) ?_
        refine lv_lload_n hx hb dL_isSighted_285 rfl (lv_at hl 9 rfl) ?_
        refine W.lcmp hx hb dL_isSighted_286 ?_
        refine lv_topE (y := 0) (by rw [hυ1]; exact lg_cmp_self _) ?_
        refine lv_if_ne (tgt := 294) hx hb dL_isSighted_287 (by decide) (fun c_287 => absurd c_287 (by decide)) (fun c_287 => ?_)
        refine lv_iconst (v := 1) hx hb dL_isSighted_290 (by decide) ?_
        refine lv_goto (tgt := 295) hx hb dL_isSighted_291 (by decide) ?_
        exact mm_zret hF hS dL_isSighted_295 rfl (⟨rfl, υ, ⟨hGυ.1, hυ1, hGυ.2.1.trans hc1.2.1, hGυ.2.2.trans hc1.2.2⟩, hB⟩)
      · refine lv_iload hx hb dL_isSighted_219 (lv_at hl 5 rfl) ?_
        refine lv_iload_n hx hb dL_isSighted_221 rfl (lv_at hl 11 rfl) ?_
        refine lv_icmp_eq (tgt := 242) hx hb dL_isSighted_222 (by decide) (fun c_222 => ?_) (fun c_222 => ?_)
        · refine lv_aload_n hx hb dL_isSighted_242 rfl (lv_at hl 10 rfl) ?_
          refine lv_iload_n hx hb dL_isSighted_243 rfl (lv_at hl 11 rfl) ?_
          refine lv_bipush (v := 8) hx hb dL_isSighted_244 (by decide) ?_
          refine core_p (v := .int (τ.1.1 13 r)) (grV (n := 2) (As := [.int (nI r), .int 8]) (rest := []) h0 hF (m_X9_roofOf_8 h0 (cm := cm) (o := o) (σ := τ) hOτ (nI r) r rfl (by omega)) wm_L_98 wo_X9_roofOf ws_X9__X9_roofOf wz_X9 wc_X9_roofOf ⟨by decide, by decide, by decide +kernel⟩ rfl ⟨Nat.le_of_ble_eq_true rfl, Nat.le_of_ble_eq_true rfl⟩ (ci := 8) (SBH.rec hB) rfl hB hS hAo ⟨Nat.le_of_ble_eq_true rfl, Nat.le_of_ble_eq_true rfl⟩ hl.1 rfl (Nat.le_of_ble_eq_true rfl) dL_isSighted_246) ?_
          refine lv_iload_n hx hb dL_isSighted_249 rfl (lv_at hl 12 rfl) ?_
          refine lv_ishr hx hb dL_isSighted_250 ?_
          refine lv_iconst (v := 1) hx hb dL_isSighted_251 (by decide) ?_
          refine lv_iand hx hb dL_isSighted_252 ?_
          refine lv_aload_n hx hb dL_isSighted_253 rfl (lv_at hl 10 rfl) ?_
          refine lv_iload_n hx hb dL_isSighted_254 rfl (lv_at hl 12 rfl) ?_
          refine lv_iconst (v := 2) hx hb dL_isSighted_255 (by decide) ?_
          refine core_p (v := .int (bI (isSeen τ.1 i))) (grV (n := 2) (As := [.int (nI i), .int 2]) (rest := [.int (((τ.1.1 13 r) >>> ((nI i) &&& 31)) &&& 1)]) h0 hF (m_X9_starOf_2 h0 (cm := cm) (o := o) (σ := τ) hOτ (nI i) i rfl (by omega)) wm_L_95 wo_X9_starOf ws_X9__X9_starOf wz_X9 wc_X9_starOf ⟨by decide, by decide, by decide +kernel⟩ rfl ⟨Nat.le_of_ble_eq_true rfl, Nat.le_of_ble_eq_true rfl⟩ (ci := 8) (SBH.rec hB) rfl hB hS hAo ⟨Nat.le_of_ble_eq_true rfl, Nat.le_of_ble_eq_true rfl⟩ hl.1 rfl (Nat.le_of_ble_eq_true rfl) dL_isSighted_256) ?_
          refine lv_icmp_ne (tgt := 266) hx hb dL_isSighted_259 (by decide) (fun c_259 => absurd ht8 c_259) (fun c_259 => ?_)
          refine lv_iconst (v := 1) hx hb dL_isSighted_262 (by decide) ?_
          refine lv_goto (tgt := 267) hx hb dL_isSighted_263 (by decide) ?_
          refine lv_istore (lv' := [(13, .int 1), (12, .int (payI (σ.1.1 5 r) (levI σ.1 (nI r) i))), (11, .int ((oCmd σ.1 σ.2.2.2.2.1 3 (nI r) (nI i) 0).1)), (10, .int (σ.1.1 12 r)), (9, .int (if σ.1.1 2 i = -4 then 0 else σ.1.1 5 (tn (σ.1.1 2 i)))), (8, .int (σ.1.1 2 i)), (7, .int (σ.1.1 6 r)), (6, .int (σ.1.1 5 r)), (5, .int (levI σ.1 (nI r) i)), (3, .long (digV σ.1)), (0, .ref o), (1, .int (nI r)), (2, .int (nI i))]) hx hb dL_isSighted_267 hl (by decide) rfl (fun ls hl => ?_)
          refine lv_iload hx hb dL_isSighted_269 (lv_at hl 0 rfl) ?_
          refine lv_if_eq (tgt := 294) hx hb dL_isSighted_271 (by decide) (fun c_271 => absurd c_271 (by decide)) (fun c_271 => ?_)
          refine lv_aload_n hx hb dL_isSighted_274 rfl (lv_at hl 10 rfl) ?_
          refine core_m (A1 := gA X) (grV (Bh := (SBH X cm o τ)) (n := 0) (As := []) (rest := []) h0 hF (m_X9_undo h0 (cm := cm) (o := o) (σ := τ) hPτ hcτ) wm_L_82 wo_X9_undo ws_X9__X9_undo wz_X9 wc_X9_undo ⟨by decide, by decide, by decide +kernel⟩ rfl ⟨Nat.le_of_ble_eq_true rfl, Nat.le_of_ble_eq_true rfl⟩ (ci := 8) (SBH.rec hB) rfl hB hS hAo ⟨Nat.le_of_ble_eq_true rfl, Nat.le_of_ble_eq_true rfl⟩ hl.1 rfl (Nat.le_of_ble_eq_true rfl) dL_isSighted_275) hS (fun q h8 => h8) (fun v' H locs hq' hz1 hk1 hS => ?_)
          obtain ⟨rfl, hB⟩ := hq'
          obtain ⟨υ, hυ, hB⟩ : ∃ υ, υ = sbBack τ ∧ SBH X cm o υ H := ⟨_, rfl, hB⟩
          have hGυ := hGτ.back
          rw [← hυ] at hGυ
          have hOυ := hGυ.1.O
          have hυ1 : υ.1 = σ.1 := by rw [hυ, hτ]; exact (chg_back hP ht1).2.1
          refine lv_if_lt (tgt := 294) hx hb dL_isSighted_278 (by decide) (fun c_278 => absurd c_278 (nI_pos (by have := hPτ.1; omega))) (fun c_278 => ?_)
          have n_278 := Int32.not_lt.mp c_278
          refine lv_aload_n hx hb dL_isSighted_281 rfl (lv_at hl 10 rfl) ?_
          refine core_p (v := .long (digV υ.1)) (grS (n := 1) (As := [.ref o]) (rest := []) h0 hF (m_L_digest h0 (cm := cm) (o := o) (σ := υ) hOυ ) wm_L_151 wt_L_digest wz_L wc_L_digest ⟨by decide, by decide, by decide +kernel⟩ rfl ⟨Nat.le_of_ble_eq_true rfl, Nat.le_of_ble_eq_true rfl⟩ hB hS hAo ⟨Nat.le_of_ble_eq_true rfl, Nat.le_of_ble_eq_true rfl⟩ hl.1 rfl (Nat.le_of_ble_eq_true rfl) dL_isSighted_282) ?_
          refine lv_lload_n hx hb dL_isSighted_285 rfl (lv_at hl 9 rfl) ?_
          refine W.lcmp hx hb dL_isSighted_286 ?_
          refine lv_topE (y := 0) (by rw [hυ1]; exact lg_cmp_self _) ?_
          refine lv_if_ne (tgt := 294) hx hb dL_isSighted_287 (by decide) (fun c_287 => absurd c_287 (by decide)) (fun c_287 => ?_)
          refine lv_iconst (v := 1) hx hb dL_isSighted_290 (by decide) ?_
          refine lv_goto (tgt := 295) hx hb dL_isSighted_291 (by decide) ?_
          exact mm_zret hF hS dL_isSighted_295 rfl (⟨rfl, υ, ⟨hGυ.1, hυ1, hGυ.2.1.trans hc1.2.1, hGυ.2.2.trans hc1.2.2⟩, hB⟩)
        · refine lv_aload_n hx hb dL_isSighted_225 rfl (lv_at hl 10 rfl) ?_
          refine lv_iload hx hb dL_isSighted_226 (lv_at hl 5 rfl) ?_
          refine lv_iconst (v := 0) hx hb dL_isSighted_228 (by decide) ?_
          refine core_p (v := .int (τ.1.1 5 (tn (σ.1.1 2 i)))) (grV (n := 2) (As := [.int (σ.1.1 2 i), .int 0]) (rest := []) h0 hF (m_X9_roofOf_0 h0 (cm := cm) (o := o) (σ := τ) hOτ (σ.1.1 2 i) (tn (σ.1.1 2 i)) ((hcl c_216).1) (by rw [hτ2]; exact (hcl c_216).2)) wm_L_98 wo_X9_roofOf ws_X9__X9_roofOf wz_X9 wc_X9_roofOf ⟨by decide, by decide, by decide +kernel⟩ rfl ⟨Nat.le_of_ble_eq_true rfl, Nat.le_of_ble_eq_true rfl⟩ (ci := 8) (SBH.rec hB) rfl hB hS hAo ⟨Nat.le_of_ble_eq_true rfl, Nat.le_of_ble_eq_true rfl⟩ hl.1 rfl (Nat.le_of_ble_eq_true rfl) dL_isSighted_229) ?_
          refine lv_iload hx hb dL_isSighted_232 (lv_at hl 4 rfl) ?_
          refine lv_iload hx hb dL_isSighted_234 (lv_at hl 1 rfl) ?_
          refine lv_iconst (v := 2) hx hb dL_isSighted_236 (by decide) ?_
          refine lv_idiv hx hb dL_isSighted_237 (by decide) ?_
          refine lv_iadd hx hb dL_isSighted_238 ?_
          refine lv_icmp_ne (tgt := 266) hx hb dL_isSighted_239 (by decide) (fun c_239 => absurd (by rw [if_neg c_216]; exact ht7 c_216 c_222) c_239) (fun c_239 => ?_)
          refine lv_aload_n hx hb dL_isSighted_242 rfl (lv_at hl 10 rfl) ?_
          refine lv_iload_n hx hb dL_isSighted_243 rfl (lv_at hl 11 rfl) ?_
          refine lv_bipush (v := 8) hx hb dL_isSighted_244 (by decide) ?_
          refine core_p (v := .int (τ.1.1 13 r)) (grV (n := 2) (As := [.int (nI r), .int 8]) (rest := []) h0 hF (m_X9_roofOf_8 h0 (cm := cm) (o := o) (σ := τ) hOτ (nI r) r rfl (by omega)) wm_L_98 wo_X9_roofOf ws_X9__X9_roofOf wz_X9 wc_X9_roofOf ⟨by decide, by decide, by decide +kernel⟩ rfl ⟨Nat.le_of_ble_eq_true rfl, Nat.le_of_ble_eq_true rfl⟩ (ci := 8) (SBH.rec hB) rfl hB hS hAo ⟨Nat.le_of_ble_eq_true rfl, Nat.le_of_ble_eq_true rfl⟩ hl.1 rfl (Nat.le_of_ble_eq_true rfl) dL_isSighted_246) ?_
          refine lv_iload_n hx hb dL_isSighted_249 rfl (lv_at hl 12 rfl) ?_
          refine lv_ishr hx hb dL_isSighted_250 ?_
          refine lv_iconst (v := 1) hx hb dL_isSighted_251 (by decide) ?_
          refine lv_iand hx hb dL_isSighted_252 ?_
          refine lv_aload_n hx hb dL_isSighted_253 rfl (lv_at hl 10 rfl) ?_
          refine lv_iload_n hx hb dL_isSighted_254 rfl (lv_at hl 12 rfl) ?_
          refine lv_iconst (v := 2) hx hb dL_isSighted_255 (by decide) ?_
          refine core_p (v := .int (bI (isSeen τ.1 i))) (grV (n := 2) (As := [.int (nI i), .int 2]) (rest := [.int (((τ.1.1 13 r) >>> ((nI i) &&& 31)) &&& 1)]) h0 hF (m_X9_starOf_2 h0 (cm := cm) (o := o) (σ := τ) hOτ (nI i) i rfl (by omega)) wm_L_95 wo_X9_starOf ws_X9__X9_starOf wz_X9 wc_X9_starOf ⟨by decide, by decide, by decide +kernel⟩ rfl ⟨Nat.le_of_ble_eq_true rfl, Nat.le_of_ble_eq_true rfl⟩ (ci := 8) (SBH.rec hB) rfl hB hS hAo ⟨Nat.le_of_ble_eq_true rfl, Nat.le_of_ble_eq_true rfl⟩ hl.1 rfl (Nat.le_of_ble_eq_true rfl) dL_isSighted_256) ?_
          refine lv_icmp_ne (tgt := 266) hx hb dL_isSighted_259 (by decide) (fun c_259 => absurd ht8 c_259) (fun c_259 => ?_)
          refine lv_iconst (v := 1) hx hb dL_isSighted_262 (by decide) ?_
          refine lv_goto (tgt := 267) hx hb dL_isSighted_263 (by decide) ?_
          refine lv_istore (lv' := [(13, .int 1), (12, .int (payI (σ.1.1 5 r) (levI σ.1 (nI r) i))), (11, .int ((oCmd σ.1 σ.2.2.2.2.1 3 (nI r) (nI i) 0).1)), (10, .int (σ.1.1 12 r)), (9, .int (if σ.1.1 2 i = -4 then 0 else σ.1.1 5 (tn (σ.1.1 2 i)))), (8, .int (σ.1.1 2 i)), (7, .int (σ.1.1 6 r)), (6, .int (σ.1.1 5 r)), (5, .int (levI σ.1 (nI r) i)), (3, .long (digV σ.1)), (0, .ref o), (1, .int (nI r)), (2, .int (nI i))]) hx hb dL_isSighted_267 hl (by decide) rfl (fun ls hl => ?_)
          refine lv_iload hx hb dL_isSighted_269 (lv_at hl 0 rfl) ?_
          refine lv_if_eq (tgt := 294) hx hb dL_isSighted_271 (by decide) (fun c_271 => absurd c_271 (by decide)) (fun c_271 => ?_)
          refine lv_aload_n hx hb dL_isSighted_274 rfl (lv_at hl 10 rfl) ?_
          refine core_m (A1 := gA X) (grV (Bh := (SBH X cm o τ)) (n := 0) (As := []) (rest := []) h0 hF (m_X9_undo h0 (cm := cm) (o := o) (σ := τ) hPτ hcτ) wm_L_82 wo_X9_undo ws_X9__X9_undo wz_X9 wc_X9_undo ⟨by decide, by decide, by decide +kernel⟩ rfl ⟨Nat.le_of_ble_eq_true rfl, Nat.le_of_ble_eq_true rfl⟩ (ci := 8) (SBH.rec hB) rfl hB hS hAo ⟨Nat.le_of_ble_eq_true rfl, Nat.le_of_ble_eq_true rfl⟩ hl.1 rfl (Nat.le_of_ble_eq_true rfl) dL_isSighted_275) hS (fun q h8 => h8) (fun v' H locs hq' hz1 hk1 hS => ?_)
          obtain ⟨rfl, hB⟩ := hq'
          obtain ⟨υ, hυ, hB⟩ : ∃ υ, υ = sbBack τ ∧ SBH X cm o υ H := ⟨_, rfl, hB⟩
          have hGυ := hGτ.back
          rw [← hυ] at hGυ
          have hOυ := hGυ.1.O
          have hυ1 : υ.1 = σ.1 := by rw [hυ, hτ]; exact (chg_back hP ht1).2.1
          refine lv_if_lt (tgt := 294) hx hb dL_isSighted_278 (by decide) (fun c_278 => absurd c_278 (nI_pos (by have := hPτ.1; omega))) (fun c_278 => ?_)
          have n_278 := Int32.not_lt.mp c_278
          refine lv_aload_n hx hb dL_isSighted_281 rfl (lv_at hl 10 rfl) ?_
          refine core_p (v := .long (digV υ.1)) (grS (n := 1) (As := [.ref o]) (rest := []) h0 hF (m_L_digest h0 (cm := cm) (o := o) (σ := υ) hOυ ) wm_L_151 wt_L_digest wz_L wc_L_digest ⟨by decide, by decide, by decide +kernel⟩ rfl ⟨Nat.le_of_ble_eq_true rfl, Nat.le_of_ble_eq_true rfl⟩ hB hS hAo ⟨Nat.le_of_ble_eq_true rfl, Nat.le_of_ble_eq_true rfl⟩ hl.1 rfl (Nat.le_of_ble_eq_true rfl) dL_isSighted_282) ?_
          refine lv_lload_n hx hb dL_isSighted_285 rfl (lv_at hl 9 rfl) ?_
          refine W.lcmp hx hb dL_isSighted_286 ?_
          refine lv_topE (y := 0) (by rw [hυ1]; exact lg_cmp_self _) ?_
          refine lv_if_ne (tgt := 294) hx hb dL_isSighted_287 (by decide) (fun c_287 => absurd c_287 (by decide)) (fun c_287 => ?_)
          refine lv_iconst (v := 1) hx hb dL_isSighted_290 (by decide) ?_
          refine lv_goto (tgt := 295) hx hb dL_isSighted_291 (by decide) ?_
          exact mm_zret hF hS dL_isSighted_295 rfl (⟨rfl, υ, ⟨hGυ.1, hυ1, hGυ.2.1.trans hc1.2.1, hGυ.2.2.trans hc1.2.2⟩, hB⟩)
    · obtain ⟨hs2, hs3, hs4, hs5⟩ := hSG.neg c_77
      have hτ1 : τ.1 = σ.1 := hc1.1.trans hs5
      refine lv_iload hx hb dL_isSighted_80 (lv_at hl 1 rfl) ?_
      refine lv_iload_n hx hb dL_isSighted_82 rfl (lv_at hl 10 rfl) ?_
      refine lv_ishr hx hb dL_isSighted_83 ?_
      refine lv_iconst (v := 1) hx hb dL_isSighted_84 (by decide) ?_
      refine lv_iand hx hb dL_isSighted_85 ?_
      refine lv_iconst (v := 1) hx hb dL_isSighted_86 (by decide) ?_
      refine lv_icmp_ne (tgt := 127) hx hb dL_isSighted_87 (by decide) (fun c_87 => absurd hs2 c_87) (fun c_87 => ?_)
      refine lv_aload_n hx hb dL_isSighted_90 rfl (lv_at hl 8 rfl) ?_
      refine lv_iconst (v := 0) hx hb dL_isSighted_91 (by decide) ?_
      refine lv_iconst (v := 0) hx hb dL_isSighted_92 (by decide) ?_
      refine core_p (v := .int (τ.2.2.2.2.1 0)) (grV (n := 2) (As := [.int 0, .int 0]) (rest := []) h0 hF (m_X9_reason_0 h0 (cm := cm) (o := o) (σ := τ)) wm_L_155 wo_X9_reason ws_X9__X9_reason wz_X9 wc_X9_reason ⟨by decide, by decide, by decide +kernel⟩ rfl ⟨Nat.le_of_ble_eq_true rfl, Nat.le_of_ble_eq_true rfl⟩ (ci := 8) (SBH.rec hB) rfl hB hS hAo ⟨Nat.le_of_ble_eq_true rfl, Nat.le_of_ble_eq_true rfl⟩ hl.1 rfl (Nat.le_of_ble_eq_true rfl) dL_isSighted_93) ?_
      refine lv_iconst (v := 3) hx hb dL_isSighted_96 (by decide) ?_
      refine lv_icmp_ne (tgt := 127) hx hb dL_isSighted_97 (by decide) (fun c_97 => absurd (by rw [hτ, chg_E (by decide)]; exact hs3) c_97) (fun c_97 => ?_)
      refine lv_aload_n hx hb dL_isSighted_100 rfl (lv_at hl 8 rfl) ?_
      refine lv_iconst (v := 0) hx hb dL_isSighted_101 (by decide) ?_
      refine lv_iconst (v := 1) hx hb dL_isSighted_102 (by decide) ?_
      refine core_p (v := .int (τ.2.2.2.2.1 1)) (grV (n := 2) (As := [.int 0, .int 1]) (rest := []) h0 hF (m_X9_reason_1 h0 (cm := cm) (o := o) (σ := τ)) wm_L_155 wo_X9_reason ws_X9__X9_reason wz_X9 wc_X9_reason ⟨by decide, by decide, by decide +kernel⟩ rfl ⟨Nat.le_of_ble_eq_true rfl, Nat.le_of_ble_eq_true rfl⟩ (ci := 8) (SBH.rec hB) rfl hB hS hAo ⟨Nat.le_of_ble_eq_true rfl, Nat.le_of_ble_eq_true rfl⟩ hl.1 rfl (Nat.le_of_ble_eq_true rfl) dL_isSighted_103) ?_
      refine lv_iload hx hb dL_isSighted_106 (lv_at hl 1 rfl) ?_
      refine core_p (v := .int (bcI (σ.1.1 12 r))) (grS (n := 1) (As := [.int (σ.1.1 12 r)]) (rest := [.int (τ.2.2.2.2.1 1)]) h0 hF (m_J6_bitCount_0f7a4 h0 (σ.1.1 12 r)) wm_L_159 wt_J6_bitCount_0f7a4 wz_J6 wc_J6_bitCount_0f7a4 ⟨by decide, by decide, by decide +kernel⟩ rfl ⟨Nat.le_of_ble_eq_true rfl, Nat.le_of_ble_eq_true rfl⟩ trivial hS hAo ⟨Nat.le_of_ble_eq_true rfl, Nat.le_of_ble_eq_true rfl⟩ hl.1 rfl (Nat.le_of_ble_eq_true rfl) dL_isSighted_108) ?_
      refine lv_icmp_ne (tgt := 127) hx hb dL_isSighted_111 (by decide) (fun c_111 => absurd (by rw [hτ, chg_E (by decide)]; exact hs4) c_111) (fun c_111 => ?_)
      refine lv_aload_n hx hb dL_isSighted_114 rfl (lv_at hl 8 rfl) ?_
      refine core_p (v := .long (digV τ.1)) (grS (n := 1) (As := [.ref o]) (rest := []) h0 hF (m_L_digest h0 (cm := cm) (o := o) (σ := τ) hOτ ) wm_L_151 wt_L_digest wz_L wc_L_digest ⟨by decide, by decide, by decide +kernel⟩ rfl ⟨Nat.le_of_ble_eq_true rfl, Nat.le_of_ble_eq_true rfl⟩ hB hS hAo ⟨Nat.le_of_ble_eq_true rfl, Nat.le_of_ble_eq_true rfl⟩ hl.1 rfl (Nat.le_of_ble_eq_true rfl) dL_isSighted_115) ?_
      refine lv_lload_n hx hb dL_isSighted_118 rfl (lv_at hl 7 rfl) ?_
      refine W.lcmp hx hb dL_isSighted_119 ?_
      refine lv_topE (y := 0) (by rw [hτ1]; exact lg_cmp_self _) ?_
      refine lv_if_ne (tgt := 127) hx hb dL_isSighted_120 (by decide) (fun c_120 => absurd c_120 (by decide)) (fun c_120 => ?_)
      refine lv_iconst (v := 1) hx hb dL_isSighted_123 (by decide) ?_
      refine lv_goto (tgt := 128) hx hb dL_isSighted_124 (by decide) ?_
      exact mm_zret hF hS dL_isSighted_128 rfl (⟨rfl, τ, ⟨hGτ, hτ1, hc1.2.1, hc1.2.2⟩, hB⟩)
  refine lv_iload hx hb dL_isSighted_36 (lv_at hl 0 rfl) ?_
  refine lv_bipush (v := (-4)) hx hb dL_isSighted_38 (by decide) ?_
  refine lv_icmp_ne (tgt := 47) hx hb dL_isSighted_40 (by decide) (fun c_40 => ?_) (fun c_40 => ?_)
  · refine lv_aload_n hx hb dL_isSighted_47 rfl (lv_at hl 5 rfl) ?_
    refine lv_iload hx hb dL_isSighted_48 (lv_at hl 0 rfl) ?_
    refine lv_iconst (v := 0) hx hb dL_isSighted_50 (by decide) ?_
    refine core_p (v := .int (σ.1.1 5 (tn (σ.1.1 2 i)))) (grV (n := 2) (As := [.int (σ.1.1 2 i), .int 0]) (rest := []) h0 hF (m_X9_roofOf_0 h0 (cm := cm) (o := o) (σ := σ) hO (σ.1.1 2 i) (tn (σ.1.1 2 i)) ((hcl c_40).1) (hcl c_40).2) wm_L_98 wo_X9_roofOf ws_X9__X9_roofOf wz_X9 wc_X9_roofOf ⟨by decide, by decide, by decide +kernel⟩ rfl ⟨Nat.le_of_ble_eq_true rfl, Nat.le_of_ble_eq_true rfl⟩ (ci := 8) (SBH.rec hB) rfl hB hS hAo ⟨Nat.le_of_ble_eq_true rfl, Nat.le_of_ble_eq_true rfl⟩ hl.1 rfl (Nat.le_of_ble_eq_true rfl) dL_isSighted_51) ?_
    exact hJ_36 _ (by simp [c_40])
  · refine lv_iconst (v := 0) hx hb dL_isSighted_43 (by decide) ?_
    refine lv_goto (tgt := 54) hx hb dL_isSighted_44 (by decide) ?_
    exact hJ_36 _ (by simp [c_40])
