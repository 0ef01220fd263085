theorem nI_p1 {p : Nat} (h : 1 ≤ p) : nI p - 1 = nI (p - 1) := by
  obtain ⟨q, rfl⟩ : ∃ q, p = q + 1 := ⟨p - 1, by omega⟩
  exact nI_pred q
theorem bI_1 {b : Bool} (h : bI b = 1) : b = true := by cases b; exact absurd h (by decide); rfl
theorem bit_sh : ∀ a, a < 256 → ∀ i, i < 8 → ((nI a >>> (nI i &&& 31)) &&& 1 = 0 ↔ nI a &&& bitI i = 0) := by decide +kernel
theorem op_n {k : Sk} {r i : Nat} (h : ¬ bI (isSeen k i) = 1) : 0 = bI (opB k r i) := by
  have : isSeen k i = false := by cases hs : isSeen k i; rfl; rw [hs] at h; exact absurd rfl h
  unfold opB
  rw [this]
  rfl
theorem op_b {k : Sk} {r i : Nat} {P Q : Prop} {x v : Int32} (ea : k.1 12 r = x) (hs : isSeen k i = true) (h : P ↔ x &&& bitI i = 0) (hc : Q) (hv : (Q → ¬ P) ∧ v = 0 ∨ (Q → P) ∧ v = 1 := by first | exact Or.inl ⟨id, rfl⟩ | exact Or.inr ⟨id, rfl⟩) : v = bI (opB k r i) := by
  unfold opB
  rw [ea, hs]
  rcases hv with ⟨h1, rfl⟩ | ⟨h1, rfl⟩
  · rw [decide_eq_false (fun h9 => h1 hc (h.mpr h9))]; rfl
  · rw [decide_eq_true (h.mp (h1 hc))]; rfl
/-- what the law asks of the orders -/
def OF (k : Sk) : Prop :=
  fnd (fun z => decide (nI (rankR k z) = nI (k.2 1))) (-1) (k.2 1) 0 = -1 ∧ fnd (fun z => decide (nI (rankS k z) = nI (k.2 0))) (-1) (k.2 0) 0 = -1 ∧ fnd (fun z => decide (nI (rankS k z) = -1)) (-1) (k.2 0) 0 = -1 ∧
  (∀ p, 1 ≤ p → p < k.2 1 → ∃ a b, a < k.2 1 ∧ b < k.2 1 ∧ fnd (fun z => decide (nI (rankR k z) = nI (p - 1))) (-1) (k.2 1) 0 = nI a ∧ fnd (fun z => decide (nI (rankR k z) = nI p)) (-1) (k.2 1) 0 = nI b ∧
    (0 < k.1 5 a - k.1 6 a - k.1 5 b + k.1 6 b ∨ k.1 5 a - k.1 6 a - k.1 5 b + k.1 6 b = 0 ∧ (0 < roofV k b 2 - roofV k a 2 ∨ roofV k b 2 - roofV k a 2 = 0 ∧ nI a < nI b))) ∧
  (∀ p, 1 ≤ p → p < k.2 0 → ∃ a b, a < k.2 0 ∧ b < k.2 0 ∧ fnd (fun z => decide (nI (rankS k z) = nI (p - 1))) (-1) (k.2 0) 0 = nI a ∧ fnd (fun z => decide (nI (rankS k z) = nI p)) (-1) (k.2 0) 0 = nI b ∧
    (0 < k.1 0 a - k.1 0 b ∨ k.1 0 a - k.1 0 b = 0 ∧ (0 < k.1 3 a - k.1 3 b ∨ k.1 3 a - k.1 3 b = 0 ∧ nI a < nI b))) ∧
  (∀ r, r < k.2 1 → ∃ a, a < 256 ∧ k.1 12 r = nI a) ∧
  (∀ r, r < k.2 1 → ∀ i, i < k.2 0 → opB k r i = true → ¬ csR k r (k.2 0) = -4 ∧ levI k (nI r) (csR k r (k.2 0)).toNatClampNeg ≤ levI k (nI r) i)

set_option maxHeartbeats 4000000 in
set_option maxRecDepth 100000 in
theorem m_L_areOrders {X : Cx} {l : Launch} (h0 : Init X) {cm : Nat → Nat} {o : Nat} {σ : Sb} (hO : Ok σ.1) (hQ : OF σ.1) : PM X l yL_areOrders cL_areOrders 9 (some .boolean) 5 116 [.ref o] (SBH X cm o σ) (.int 1) := by
  refine Met.mk (Bh := (SBH X cm o σ)) (by decide) (Nat.le_of_ble_eq_true rfl) ?_
  intro p e s m below meth c ls hF hB hl
  have hl : lv_has ls 9 [(0, .ref o)] := hl
  obtain ⟨hx, hb, hml, hr, hlk, hown, hG⟩ := id hF
  have hK := hG.K h0
  have hS : va_S noA s.heap s.heap [] := va_S.rf
  have hO1 := hO.1
  have hO2 := hO.2.1
  have hO3 := hO.2.2.1
  obtain ⟨hq1, hq2, hq3, hq4, hq5, hq6, hq7⟩ := hQ
  refine lv_aload_n hx hb dL_areOrders_0 rfl (lv_at hl 0 rfl) ?_
  refine lv_iconst (v := 1) hx hb dL_areOrders_1 (by decide) ?_
  refine core_p (v := .int (nI (σ.1.2 1))) (grV (n := 1) (As := [.int 1]) (rest := []) h0 hF (m_X9_account_1 h0 (cm := cm) (o := o) (σ := σ) hO) wm_L_89 wo_X9_account ws_X9__X9_account wz_X9 wc_X9_account ⟨by decide, by decide, by decide +kernel⟩ rfl ⟨Nat.le_of_ble_eq_true rfl, Nat.le_of_ble_eq_true rfl⟩ (ci := 8) (SBH.rec hB) rfl hB hS noA_old ⟨Nat.zero_le _, Nat.zero_le _⟩ hl.1 rfl (Nat.le_of_ble_eq_true rfl) dL_areOrders_2) ?_
  refine lv_istore_n (lv' := [(1, .int (nI (σ.1.2 1))), (0, .ref o)]) hx hb dL_areOrders_5 rfl hl (by decide) rfl (fun ls hl => ?_)
  refine lv_aload_n hx hb dL_areOrders_6 rfl (lv_at hl 1 rfl) ?_
  refine lv_iconst (v := 0) hx hb dL_areOrders_7 (by decide) ?_
  refine core_p (v := .int (nI (σ.1.2 0))) (grV (n := 1) (As := [.int 0]) (rest := []) h0 hF (m_X9_account_0 h0 (cm := cm) (o := o) (σ := σ) hO) wm_L_89 wo_X9_account ws_X9__X9_account wz_X9 wc_X9_account ⟨by decide, by decide, by decide +kernel⟩ rfl ⟨Nat.le_of_ble_eq_true rfl, Nat.le_of_ble_eq_true rfl⟩ (ci := 8) (SBH.rec hB) rfl hB hS noA_old ⟨Nat.zero_le _, Nat.zero_le _⟩ hl.1 rfl (Nat.le_of_ble_eq_true rfl) dL_areOrders_8) ?_
  refine lv_istore_n (lv' := [(2, .int (nI (σ.1.2 0))), (1, .int (nI (σ.1.2 1))), (0, .ref o)]) hx hb dL_areOrders_11 rfl hl (by decide) rfl (fun ls hl => ?_)
  refine lv_aload_n hx hb dL_areOrders_12 rfl (lv_at hl 2 rfl) ?_
  refine lv_iload_n hx hb dL_areOrders_13 rfl (lv_at hl 1 rfl) ?_
  refine core_p (v := .int (fnd (fun z => decide (nI (rankR σ.1 z) = (nI (σ.1.2 1)))) (-1) (σ.1.2 1) 0)) (grV (n := 1) (As := [.int (nI (σ.1.2 1))]) (rest := []) h0 hF (m_X9_richest h0 (cm := cm) (o := o) (σ := σ) hO (nI (σ.1.2 1))) wm_L_177 wo_X9_richest ws_X9__X9_richest wz_X9 wc_X9_richest ⟨by decide, by decide, by decide +kernel⟩ rfl ⟨Nat.le_of_ble_eq_true rfl, Nat.le_of_ble_eq_true rfl⟩ (ci := 8) (SBH.rec hB) rfl hB hS noA_old ⟨Nat.zero_le _, Nat.zero_le _⟩ hl.1 rfl (Nat.le_of_ble_eq_true rfl) dL_areOrders_14) ?_
  refine lv_iconst (v := (-1)) hx hb dL_areOrders_17 (by decide) ?_
  refine lv_icmp_ne (tgt := 43) hx hb dL_areOrders_18 (by decide) (fun c_18 => absurd hq1 c_18) (fun c_18 => ?_)
  refine lv_aload_n hx hb dL_areOrders_21 rfl (lv_at hl 2 rfl) ?_
  refine lv_iload_n hx hb dL_areOrders_22 rfl (lv_at hl 0 rfl) ?_
  refine core_p (v := .int (fnd (fun z => decide (nI (rankS σ.1 z) = (nI (σ.1.2 0)))) (-1) (σ.1.2 0) 0)) (grV (n := 1) (As := [.int (nI (σ.1.2 0))]) (rest := []) h0 hF (m_X9_brightest h0 (cm := cm) (o := o) (σ := σ) hO (nI (σ.1.2 0))) wm_L_180 wo_X9_brightest ws_X9__X9_brightest wz_X9 wc_X9_brightest ⟨by decide, by decide, by decide +kernel⟩ rfl ⟨Nat.le_of_ble_eq_true rfl, Nat.le_of_ble_eq_true rfl⟩ (ci := 8) (SBH.rec hB) rfl hB hS noA_old ⟨Nat.zero_le _, Nat.zero_le _⟩ hl.1 rfl (Nat.le_of_ble_eq_true rfl) dL_areOrders_23) ?_
  refine lv_iconst (v := (-1)) hx hb dL_areOrders_26 (by decide) ?_
  refine lv_icmp_ne (tgt := 43) hx hb dL_areOrders_27 (by decide) (fun c_27 => absurd hq2 c_27) (fun c_27 => ?_)
  refine lv_aload_n hx hb dL_areOrders_30 rfl (lv_at hl 2 rfl) ?_
  refine lv_iconst (v := (-1)) hx hb dL_areOrders_31 (by decide) ?_
  refine core_p (v := .int (fnd (fun z => decide (nI (rankS σ.1 z) = (-1))) (-1) (σ.1.2 0) 0)) (grV (n := 1) (As := [.int (-1)]) (rest := []) h0 hF (m_X9_brightest h0 (cm := cm) (o := o) (σ := σ) hO (-1)) wm_L_180 wo_X9_brightest ws_X9__X9_brightest wz_X9 wc_X9_brightest ⟨by decide, by decide, by decide +kernel⟩ rfl ⟨Nat.le_of_ble_eq_true rfl, Nat.le_of_ble_eq_true rfl⟩ (ci := 8) (SBH.rec hB) rfl hB hS noA_old ⟨Nat.zero_le _, Nat.zero_le _⟩ hl.1 rfl (Nat.le_of_ble_eq_true rfl) dL_areOrders_32) ?_
  refine lv_iconst (v := (-1)) hx hb dL_areOrders_35 (by decide) ?_
  refine lv_icmp_ne (tgt := 43) hx hb dL_areOrders_36 (by decide) (fun c_36 => absurd hq3 c_36) (fun c_36 => ?_)
  refine lv_iconst (v := 1) hx hb dL_areOrders_39 (by decide) ?_
  refine lv_goto (tgt := 44) hx hb dL_areOrders_40 (by decide) ?_
  refine lv_istore_n (lv' := [(3, .int 1), (2, .int (nI (σ.1.2 0))), (1, .int (nI (σ.1.2 1))), (0, .ref o)]) hx hb dL_areOrders_44 rfl hl (by decide) rfl (fun ls hl => ?_)
  refine lv_iconst (v := 1) hx hb dL_areOrders_45 (by decide) ?_
  refine lv_istore (lv' := [(4, .int 1), (3, .int 1), (2, .int (nI (σ.1.2 0))), (1, .int (nI (σ.1.2 1))), (0, .ref o)]) hx hb dL_areOrders_46 hl (by decide) rfl (fun ls hl => ?_)
  have key_48 : ∀ (nf pl : Nat), pl + nf = max 1 (σ.1.2 1) → 1 ≤ pl → ∀ (ls : Array Slot), lv_has ls 9 [(0, .ref o), (1, .int (nI (σ.1.2 1))), (2, .int (nI (σ.1.2 0))), (3, .int 1), (4, .int (nI pl))] → W p l e ({ frames := 5, cells := 0, slots := 0, locals := 116 } : Room) s m ([.ref o] : List Value).toArray below meth c s.heap [] 0 0 (MQ below (qP (.int 1)) ([.ref o] : List Value).toArray s 0 0 noA) (F0 m 48 ls []) := by
    intro nf
    induction nf with
    | zero =>
      intro pl hpl hx_pl ls hl
      have hpl_e : pl = max 1 (σ.1.2 1) := by omega
      refine lv_iload_n hx hb dL_areOrders_48 rfl (lv_at hl 3 rfl) ?_
      refine lv_if_eq (tgt := 163) hx hb dL_areOrders_49 (by decide) (fun c_49 => absurd c_49 (by decide)) (fun c_49 => ?_)
      refine lv_iload hx hb dL_areOrders_52 (lv_at hl 4 rfl) ?_
      refine lv_iload_n hx hb dL_areOrders_54 rfl (lv_at hl 1 rfl) ?_
      refine lv_icmp_ge (tgt := 163) hx hb dL_areOrders_55 (by decide) (fun c_55 => ?_) (fun c_55 => absurd (nI_le (a := σ.1.2 1) (b := pl) (by omega) (by omega)) c_55)
      have n_55 := Int32.not_lt.mpr c_55
      refine lv_iconst (v := 1) hx hb dL_areOrders_163 (by decide) ?_
      refine lv_istore (lv' := [(4, .int 1), (0, .ref o), (1, .int (nI (σ.1.2 1))), (2, .int (nI (σ.1.2 0))), (3, .int 1)]) hx hb dL_areOrders_164 hl (by decide) rfl (fun ls hl => ?_)
      have key_166 : ∀ (nf pl : Nat), pl + nf = max 1 (σ.1.2 0) → 1 ≤ pl → ∀ (ls : Array Slot), lv_has ls 9 [(0, .ref o), (1, .int (nI (σ.1.2 1))), (2, .int (nI (σ.1.2 0))), (3, .int 1), (4, .int (nI pl))] → W p l e ({ frames := 5, cells := 0, slots := 0, locals := 116 } : Room) s m ([.ref o] : List Value).toArray below meth c s.heap [] 0 0 (MQ below (qP (.int 1)) ([.ref o] : List Value).toArray s 0 0 noA) (F0 m 166 ls []) := by
        intro nf
        induction nf with
        | zero =>
          intro pl hpl hx_pl ls hl
          have hpl_e : pl = max 1 (σ.1.2 0) := by omega
          refine lv_iload_n hx hb dL_areOrders_166 rfl (lv_at hl 3 rfl) ?_
          refine lv_if_eq (tgt := 267) hx hb dL_areOrders_167 (by decide) (fun c_167 => absurd c_167 (by decide)) (fun c_167 => ?_)
          refine lv_iload hx hb dL_areOrders_170 (lv_at hl 4 rfl) ?_
          refine lv_iload_n hx hb dL_areOrders_172 rfl (lv_at hl 2 rfl) ?_
          refine lv_icmp_ge (tgt := 267) hx hb dL_areOrders_173 (by decide) (fun c_173 => ?_) (fun c_173 => absurd (nI_le (a := σ.1.2 0) (b := pl) (by omega) (by omega)) c_173)
          have n_173 := Int32.not_lt.mpr c_173
          refine lv_iconst (v := 0) hx hb dL_areOrders_267 (by decide) ?_
          refine lv_istore (lv' := [(4, .int 0), (0, .ref o), (1, .int (nI (σ.1.2 1))), (2, .int (nI (σ.1.2 0))), (3, .int 1)]) hx hb dL_areOrders_268 hl (by decide) rfl (fun ls hl => ?_)
          have key_270 : ∀ (nf r : Nat), r + nf = σ.1.2 1 → ∀ (ls : Array Slot), lv_has ls 9 [(0, .ref o), (1, .int (nI (σ.1.2 1))), (2, .int (nI (σ.1.2 0))), (3, .int 1), (4, .int (nI r))] → W p l e ({ frames := 5, cells := 0, slots := 0, locals := 116 } : Room) s m ([.ref o] : List Value).toArray below meth c s.heap [] 0 0 (MQ below (qP (.int 1)) ([.ref o] : List Value).toArray s 0 0 noA) (F0 m 270 ls []) := by
            intro nf
            induction nf with
            | zero =>
              intro r hr ls hl
              have hr_e : r = σ.1.2 1 := by omega
              subst hr_e
              refine lv_iload_n hx hb dL_areOrders_270 rfl (lv_at hl 3 rfl) ?_
              refine lv_if_eq (tgt := 384) hx hb dL_areOrders_271 (by decide) (fun c_271 => absurd c_271 (by decide)) (fun c_271 => ?_)
              refine lv_iload hx hb dL_areOrders_274 (lv_at hl 4 rfl) ?_
              refine lv_iload_n hx hb dL_areOrders_276 rfl (lv_at hl 1 rfl) ?_
              refine lv_icmp_ge (tgt := 384) hx hb dL_areOrders_277 (by decide) (fun c_277 => ?_) (fun c_277 => absurd (nI_le (a := σ.1.2 1) (b := σ.1.2 1) (by omega) (by omega)) c_277)
              have n_277 := Int32.not_lt.mpr c_277
              refine lv_iload_n hx hb dL_areOrders_384 rfl (lv_at hl 3 rfl) ?_
              exact pm_zret hF dL_areOrders_385 rfl (rfl)
            | succ nf ih_270 =>
              intro r hr ls hl
              have hr_l : r < σ.1.2 1 := by omega
              refine lv_iload_n hx hb dL_areOrders_270 rfl (lv_at hl 3 rfl) ?_
              refine lv_if_eq (tgt := 384) hx hb dL_areOrders_271 (by decide) (fun c_271 => absurd c_271 (by decide)) (fun c_271 => ?_)
              refine lv_iload hx hb dL_areOrders_274 (lv_at hl 4 rfl) ?_
              refine lv_iload_n hx hb dL_areOrders_276 rfl (lv_at hl 1 rfl) ?_
              refine lv_icmp_ge (tgt := 384) hx hb dL_areOrders_277 (by decide) (fun c_277 => absurd c_277 (nI_ge (a := r) (b := σ.1.2 1) (by omega) (by omega))) (fun c_277 => ?_)
              have n_277 := Int32.not_le.mp c_277
              refine lv_aload_n hx hb dL_areOrders_280 rfl (lv_at hl 0 rfl) ?_
              refine lv_iload hx hb dL_areOrders_281 (lv_at hl 4 rfl) ?_
              refine core_p (v := .int (csR σ.1 r (σ.1.2 0))) (grV (n := 1) (As := [.int (nI r)]) (rest := []) h0 hF (m_X9_cheapest h0 (cm := cm) (o := o) (σ := σ) hO (nI r) r rfl (by omega)) wm_L_183 wo_X9_cheapest ws_X9__X9_cheapest wz_X9 wc_X9_cheapest ⟨by decide, by decide, by decide +kernel⟩ rfl ⟨Nat.le_of_ble_eq_true rfl, Nat.le_of_ble_eq_true rfl⟩ (ci := 8) (SBH.rec hB) rfl hB hS noA_old ⟨Nat.zero_le _, Nat.zero_le _⟩ hl.1 rfl (Nat.le_of_ble_eq_true rfl) dL_areOrders_283) ?_
              refine lv_istore (lv' := [(5, .int (csR σ.1 r (σ.1.2 0))), (0, .ref o), (1, .int (nI (σ.1.2 1))), (2, .int (nI (σ.1.2 0))), (3, .int 1), (4, .int (nI r))]) hx hb dL_areOrders_286 hl (by decide) rfl (fun ls hl => ?_)
              refine lv_iconst (v := 0) hx hb dL_areOrders_288 (by decide) ?_
              refine lv_istore (lv' := [(6, .int 0), (5, .int (csR σ.1 r (σ.1.2 0))), (0, .ref o), (1, .int (nI (σ.1.2 1))), (2, .int (nI (σ.1.2 0))), (3, .int 1), (4, .int (nI r))]) hx hb dL_areOrders_289 hl (by decide) rfl (fun ls hl => ?_)
              have key_291 : ∀ (nf i : Nat), i + nf = σ.1.2 0 → ∀ (ls : Array Slot), lv_has ls 9 [(0, .ref o), (1, .int (nI (σ.1.2 1))), (2, .int (nI (σ.1.2 0))), (3, .int 1), (4, .int (nI r)), (5, .int (csR σ.1 r (σ.1.2 0))), (6, .int (nI i))] → W p l e ({ frames := 5, cells := 0, slots := 0, locals := 116 } : Room) s m ([.ref o] : List Value).toArray below meth c s.heap [] 0 0 (MQ below (qP (.int 1)) ([.ref o] : List Value).toArray s 0 0 noA) (F0 m 291 ls []) := by
                intro nf
                induction nf with
                | zero =>
                  intro i hi ls hl
                  have hi_e : i = σ.1.2 0 := by omega
                  subst hi_e
                  refine lv_iload_n hx hb dL_areOrders_291 rfl (lv_at hl 3 rfl) ?_
                  refine lv_if_eq (tgt := 378) hx hb dL_areOrders_292 (by decide) (fun c_292 => absurd c_292 (by decide)) (fun c_292 => ?_)
                  refine lv_iload hx hb dL_areOrders_295 (lv_at hl 6 rfl) ?_
                  refine lv_iload_n hx hb dL_areOrders_297 rfl (lv_at hl 2 rfl) ?_
                  refine lv_icmp_ge (tgt := 378) hx hb dL_areOrders_298 (by decide) (fun c_298 => ?_) (fun c_298 => absurd (nI_le (a := σ.1.2 0) (b := σ.1.2 0) (by omega) (by omega)) c_298)
                  have n_298 := Int32.not_lt.mpr c_298
                  refine lv_iinc (v := nI (r + 1)) (lv' := [(4, .int (nI (r + 1))), (0, .ref o), (1, .int (nI (σ.1.2 1))), (2, .int (nI (σ.1.2 0))), (3, .int 1), (5, .int (csR σ.1 r (σ.1.2 0))), (6, .int (nI (σ.1.2 0)))]) hx hb dL_areOrders_378 hl (k := 4) rfl (nI_1 r) (by decide) rfl (fun ls hl => ?_)
                  refine lv_goto (tgt := 270) hx hb dL_areOrders_381 (by decide) ?_
                  refine ih_270 (r + 1) (by omega) ls (lv_eqv (lv_sub (l' := [(0, .ref o), (1, .int (nI (σ.1.2 1))), (2, .int (nI (σ.1.2 0))), (3, .int 1), (4, .int (nI (r + 1)))]) hl [1, 2, 3, 4, 0] rfl) ?_)
                  rfl
                | succ nf ih_291 =>
                  intro i hi ls hl
                  have hi_l : i < σ.1.2 0 := by omega
                  refine lv_iload_n hx hb dL_areOrders_291 rfl (lv_at hl 3 rfl) ?_
                  refine lv_if_eq (tgt := 378) hx hb dL_areOrders_292 (by decide) (fun c_292 => absurd c_292 (by decide)) (fun c_292 => ?_)
                  refine lv_iload hx hb dL_areOrders_295 (lv_at hl 6 rfl) ?_
                  refine lv_iload_n hx hb dL_areOrders_297 rfl (lv_at hl 2 rfl) ?_
                  refine lv_icmp_ge (tgt := 378) hx hb dL_areOrders_298 (by decide) (fun c_298 => absurd c_298 (nI_ge (a := i) (b := σ.1.2 0) (by omega) (by omega))) (fun c_298 => ?_)
                  have n_298 := Int32.not_le.mp c_298
                  have hJ_301 : ∀ v9 : Int32, v9 = bI (opB σ.1 r i) → W p l e ({ frames := 5, cells := 0, slots := 0, locals := 116 } : Room) s m ([.ref o] : List Value).toArray below meth c s.heap [] 0 0 (MQ below (qP (.int 1)) ([.ref o] : List Value).toArray s 0 0 noA) (F0 m 333 ls (.int v9 :: [])) := by
                    intro v9 hv9
                    subst hv9
                    refine lv_istore (lv' := [(7, .int (bI (opB σ.1 r i))), (0, .ref o), (1, .int (nI (σ.1.2 1))), (2, .int (nI (σ.1.2 0))), (3, .int 1), (4, .int (nI r)), (5, .int (csR σ.1 r (σ.1.2 0))), (6, .int (nI i))]) hx hb dL_areOrders_333 hl (by decide) rfl (fun ls hl => ?_)
                    have hJ_335 : ∀ v9 : Int32, v9 = 1 → W p l e ({ frames := 5, cells := 0, slots := 0, locals := 116 } : Room) s m ([.ref o] : List Value).toArray below meth c s.heap [] 0 0 (MQ below (qP (.int 1)) ([.ref o] : List Value).toArray s 0 0 noA) (F0 m 371 ls (.int v9 :: [])) := by
                      intro v9 hv9
                      subst hv9
                      refine lv_istore_n (lv' := [(3, .int 1), (7, .int (bI (opB σ.1 r i))), (0, .ref o), (1, .int (nI (σ.1.2 1))), (2, .int (nI (σ.1.2 0))), (4, .int (nI r)), (5, .int (csR σ.1 r (σ.1.2 0))), (6, .int (nI i))]) hx hb dL_areOrders_371 rfl hl (by decide) rfl (fun ls hl => ?_)
                      refine lv_iinc (v := nI (i + 1)) (lv' := [(6, .int (nI (i + 1))), (3, .int 1), (7, .int (bI (opB σ.1 r i))), (0, .ref o), (1, .int (nI (σ.1.2 1))), (2, .int (nI (σ.1.2 0))), (4, .int (nI r)), (5, .int (csR σ.1 r (σ.1.2 0)))]) hx hb dL_areOrders_372 hl (k := 7) rfl (nI_1 i) (by decide) rfl (fun ls hl => ?_)
                      refine lv_goto (tgt := 291) hx hb dL_areOrders_375 (by decide) ?_
                      refine ih_291 (i + 1) (by omega) ls (lv_eqv (lv_sub (l' := [(0, .ref o), (1, .int (nI (σ.1.2 1))), (2, .int (nI (σ.1.2 0))), (3, .int 1), (4, .int (nI r)), (5, .int (csR σ.1 r (σ.1.2 0))), (6, .int (nI (i + 1)))]) hl [3, 4, 5, 1, 6, 7, 0] rfl) ?_)
                      rfl
                    refine lv_iload hx hb dL_areOrders_335 (lv_at hl 0 rfl) ?_
                    refine lv_if_eq (tgt := 366) hx hb dL_areOrders_337 (by decide) (fun c_337 => ?_) (fun c_337 => ?_)
                    · have n_337 := bI_0.mp c_337
                      refine lv_iconst (v := 1) hx hb dL_areOrders_366 (by decide) ?_
                      refine lv_goto (tgt := 371) hx hb dL_areOrders_367 (by decide) ?_
                      exact hJ_335 _ (rfl)
                    · have n_337 := bI_n0.mp c_337
                      refine lv_iload hx hb dL_areOrders_340 (lv_at hl 6 rfl) ?_
                      refine lv_bipush (v := (-4)) hx hb dL_areOrders_342 (by decide) ?_
                      refine lv_icmp_eq (tgt := 370) hx hb dL_areOrders_344 (by decide) (fun c_344 => absurd c_344 (hq7 r hr_l i hi_l n_337).1) (fun c_344 => ?_)
                      have hbi := csR_in σ.1 r (σ.1.2 0) (by omega) c_344
                      refine lv_aload_n hx hb dL_areOrders_347 rfl (lv_at hl 1 rfl) ?_
                      refine lv_iload hx hb dL_areOrders_348 (lv_at hl 5 rfl) ?_
                      refine lv_iload hx hb dL_areOrders_350 (lv_at hl 6 rfl) ?_
                      refine core_p (v := .int (levI σ.1 (nI r) (csR σ.1 r (σ.1.2 0)).toNatClampNeg)) (grV (n := 2) (As := [.int (nI r), .int (csR σ.1 r (σ.1.2 0))]) (rest := []) h0 hF (m_X9_levy h0 (cm := cm) (o := o) (σ := σ) hO (nI r) r rfl (by omega) (csR σ.1 r (σ.1.2 0)) ((csR σ.1 r (σ.1.2 0)).toNatClampNeg) (hbi.1) hbi.2) wm_L_107 wo_X9_levy ws_X9__X9_levy wz_X9 wc_X9_levy ⟨by decide, by decide, by decide +kernel⟩ rfl ⟨Nat.le_of_ble_eq_true rfl, Nat.le_of_ble_eq_true rfl⟩ (ci := 8) (SBH.rec hB) rfl hB hS noA_old ⟨Nat.zero_le _, Nat.zero_le _⟩ hl.1 rfl (Nat.le_of_ble_eq_true rfl) dL_areOrders_352) ?_
                      refine lv_aload_n hx hb dL_areOrders_355 rfl (lv_at hl 1 rfl) ?_
                      refine lv_iload hx hb dL_areOrders_356 (lv_at hl 5 rfl) ?_
                      refine lv_iload hx hb dL_areOrders_358 (lv_at hl 7 rfl) ?_
                      refine core_p (v := .int (levI σ.1 (nI r) i)) (grV (n := 2) (As := [.int (nI r), .int (nI i)]) (rest := [.int (levI σ.1 (nI r) (csR σ.1 r (σ.1.2 0)).toNatClampNeg)]) h0 hF (m_X9_levy h0 (cm := cm) (o := o) (σ := σ) hO (nI r) r rfl (by omega) (nI i) i rfl (by omega)) wm_L_107 wo_X9_levy ws_X9__X9_levy wz_X9 wc_X9_levy ⟨by decide, by decide, by decide +kernel⟩ rfl ⟨Nat.le_of_ble_eq_true rfl, Nat.le_of_ble_eq_true rfl⟩ (ci := 8) (SBH.rec hB) rfl hB hS noA_old ⟨Nat.zero_le _, Nat.zero_le _⟩ hl.1 rfl (Nat.le_of_ble_eq_true rfl) dL_areOrders_360) ?_
                      refine lv_icmp_gt (tgt := 370) hx hb dL_areOrders_363 (by decide) (fun c_363 => absurd c_363 (Int32.not_lt.mpr (hq7 r hr_l i hi_l n_337).2)) (fun c_363 => ?_)
                      have n_363 := Int32.not_lt.mp c_363
                      refine lv_iconst (v := 1) hx hb dL_areOrders_366 (by decide) ?_
                      refine lv_goto (tgt := 371) hx hb dL_areOrders_367 (by decide) ?_
                      exact hJ_335 _ (rfl)
                  refine lv_aload_n hx hb dL_areOrders_301 rfl (lv_at hl 0 rfl) ?_
                  refine lv_iload hx hb dL_areOrders_302 (lv_at hl 6 rfl) ?_
                  refine lv_iconst (v := 2) hx hb dL_areOrders_304 (by decide) ?_
                  refine core_p (v := .int (bI (isSeen σ.1 i))) (grV (n := 2) (As := [.int (nI i), .int 2]) (rest := []) h0 hF (m_X9_starOf_2 h0 (cm := cm) (o := o) (σ := σ) hO (nI i) i rfl (by omega)) wm_L_95 wo_X9_starOf ws_X9__X9_starOf wz_X9 wc_X9_starOf ⟨by decide, by decide, by decide +kernel⟩ rfl ⟨Nat.le_of_ble_eq_true rfl, Nat.le_of_ble_eq_true rfl⟩ (ci := 8) (SBH.rec hB) rfl hB hS noA_old ⟨Nat.zero_le _, Nat.zero_le _⟩ hl.1 rfl (Nat.le_of_ble_eq_true rfl) dL_areOrders_305) ?_
                  refine lv_iconst (v := 1) hx hb dL_areOrders_308 (by decide) ?_
                  refine lv_icmp_ne (tgt := 332) hx hb dL_areOrders_309 (by decide) (fun c_309 => ?_) (fun c_309 => ?_)
                  · refine lv_iconst (v := 0) hx hb dL_areOrders_332 (by decide) ?_
                    exact hJ_301 _ (by first | exact op_n c_309 | (obtain ⟨a9, ha9, ea9⟩ := hq6 r hr_l; rw [ea9] at c_325; exact op_b ea9 (bI_1 c_309) (bit_sh a9 ha9 i (by omega)) c_325))
                  · refine lv_aload_n hx hb dL_areOrders_312 rfl (lv_at hl 0 rfl) ?_
                    refine lv_iload hx hb dL_areOrders_313 (lv_at hl 4 rfl) ?_
                    refine lv_bipush (v := 7) hx hb dL_areOrders_315 (by decide) ?_
                    refine core_p (v := .int (σ.1.1 12 r)) (grV (n := 2) (As := [.int (nI r), .int 7]) (rest := []) h0 hF (m_X9_roofOf_7 h0 (cm := cm) (o := o) (σ := σ) hO (nI r) r rfl (by omega)) wm_L_98 wo_X9_roofOf ws_X9__X9_roofOf wz_X9 wc_X9_roofOf ⟨by decide, by decide, by decide +kernel⟩ rfl ⟨Nat.le_of_ble_eq_true rfl, Nat.le_of_ble_eq_true rfl⟩ (ci := 8) (SBH.rec hB) rfl hB hS noA_old ⟨Nat.zero_le _, Nat.zero_le _⟩ hl.1 rfl (Nat.le_of_ble_eq_true rfl) dL_areOrders_317) ?_
                    refine lv_iload hx hb dL_areOrders_320 (lv_at hl 6 rfl) ?_
                    refine lv_ishr hx hb dL_areOrders_322 ?_
                    refine lv_iconst (v := 1) hx hb dL_areOrders_323 (by decide) ?_
                    refine lv_iand hx hb dL_areOrders_324 ?_
                    refine lv_if_ne (tgt := 332) hx hb dL_areOrders_325 (by decide) (fun c_325 => ?_) (fun c_325 => ?_)
                    · refine lv_iconst (v := 0) hx hb dL_areOrders_332 (by decide) ?_
                      exact hJ_301 _ (by first | exact op_n c_309 | (obtain ⟨a9, ha9, ea9⟩ := hq6 r hr_l; rw [ea9] at c_325; exact op_b ea9 (bI_1 c_309) (bit_sh a9 ha9 i (by omega)) c_325))
                    · refine lv_iconst (v := 1) hx hb dL_areOrders_328 (by decide) ?_
                      refine lv_goto (tgt := 333) hx hb dL_areOrders_329 (by decide) ?_
                      exact hJ_301 _ (by first | exact op_n c_309 | (obtain ⟨a9, ha9, ea9⟩ := hq6 r hr_l; rw [ea9] at c_325; exact op_b ea9 (bI_1 c_309) (bit_sh a9 ha9 i (by omega)) c_325))
              exact key_291 (σ.1.2 0) 0 (by omega) ls (lv_sub hl [2, 3, 4, 5, 6, 1, 0] rfl)
          exact key_270 (σ.1.2 1) 0 (by omega) ls (lv_sub hl [1, 2, 3, 4, 0] rfl)
        | succ nf ih_166 =>
          intro pl hpl hx_pl ls hl
          have hpl_l : pl < max 1 (σ.1.2 0) := by omega
          have hpl_l : pl < σ.1.2 0 := by omega
          obtain ⟨a, b, ha, hb9, ea, eb, hcd⟩ := hq5 pl hx_pl hpl_l
          refine lv_iload_n hx hb dL_areOrders_166 rfl (lv_at hl 3 rfl) ?_
          refine lv_if_eq (tgt := 267) hx hb dL_areOrders_167 (by decide) (fun c_167 => absurd c_167 (by decide)) (fun c_167 => ?_)
          refine lv_iload hx hb dL_areOrders_170 (lv_at hl 4 rfl) ?_
          refine lv_iload_n hx hb dL_areOrders_172 rfl (lv_at hl 2 rfl) ?_
          refine lv_icmp_ge (tgt := 267) hx hb dL_areOrders_173 (by decide) (fun c_173 => absurd c_173 (nI_ge (a := pl) (b := σ.1.2 0) (by omega) (by omega))) (fun c_173 => ?_)
          have n_173 := Int32.not_le.mp c_173
          refine lv_aload_n hx hb dL_areOrders_176 rfl (lv_at hl 0 rfl) ?_
          refine lv_iload hx hb dL_areOrders_177 (lv_at hl 4 rfl) ?_
          refine lv_iconst (v := 1) hx hb dL_areOrders_179 (by decide) ?_
          refine lv_isub hx hb dL_areOrders_180 ?_
          refine lv_topE (y := nI (pl - 1)) (nI_p1 hx_pl) ?_
          refine core_p (v := .int (fnd (fun z => decide (nI (rankS σ.1 z) = (nI (pl - 1)))) (-1) (σ.1.2 0) 0)) (grV (n := 1) (As := [.int (nI (pl - 1))]) (rest := []) h0 hF (m_X9_brightest h0 (cm := cm) (o := o) (σ := σ) hO (nI (pl - 1))) wm_L_180 wo_X9_brightest ws_X9__X9_brightest wz_X9 wc_X9_brightest ⟨by decide, by decide, by decide +kernel⟩ rfl ⟨Nat.le_of_ble_eq_true rfl, Nat.le_of_ble_eq_true rfl⟩ (ci := 8) (SBH.rec hB) rfl hB hS noA_old ⟨Nat.zero_le _, Nat.zero_le _⟩ hl.1 rfl (Nat.le_of_ble_eq_true rfl) dL_areOrders_181) ?_
          refine lv_topE (y := nI a) (ea) ?_
          refine lv_istore (lv' := [(5, .int (nI a)), (0, .ref o), (1, .int (nI (σ.1.2 1))), (2, .int (nI (σ.1.2 0))), (3, .int 1), (4, .int (nI pl))]) hx hb dL_areOrders_184 hl (by decide) rfl (fun ls hl => ?_)
          refine lv_aload_n hx hb dL_areOrders_186 rfl (lv_at hl 1 rfl) ?_
          refine lv_iload hx hb dL_areOrders_187 (lv_at hl 5 rfl) ?_
          refine core_p (v := .int (fnd (fun z => decide (nI (rankS σ.1 z) = (nI pl))) (-1) (σ.1.2 0) 0)) (grV (n := 1) (As := [.int (nI pl)]) (rest := []) h0 hF (m_X9_brightest h0 (cm := cm) (o := o) (σ := σ) hO (nI pl)) wm_L_180 wo_X9_brightest ws_X9__X9_brightest wz_X9 wc_X9_brightest ⟨by decide, by decide, by decide +kernel⟩ rfl ⟨Nat.le_of_ble_eq_true rfl, Nat.le_of_ble_eq_true rfl⟩ (ci := 8) (SBH.rec hB) rfl hB hS noA_old ⟨Nat.zero_le _, Nat.zero_le _⟩ hl.1 rfl (Nat.le_of_ble_eq_true rfl) dL_areOrders_189) ?_
          refine lv_topE (y := nI b) (eb) ?_
          refine lv_istore (lv' := [(6, .int (nI b)), (5, .int (nI a)), (0, .ref o), (1, .int (nI (σ.1.2 1))), (2, .int (nI (σ.1.2 0))), (3, .int 1), (4, .int (nI pl))]) hx hb dL_areOrders_192 hl (by decide) rfl (fun ls hl => ?_)
          refine lv_aload_n hx hb dL_areOrders_194 rfl (lv_at hl 2 rfl) ?_
          refine lv_iload hx hb dL_areOrders_195 (lv_at hl 1 rfl) ?_
          refine lv_iconst (v := 0) hx hb dL_areOrders_197 (by decide) ?_
          refine core_p (v := .int (σ.1.1 0 a)) (grV (n := 2) (As := [.int (nI a), .int 0]) (rest := []) h0 hF (m_X9_starOf_0 h0 (cm := cm) (o := o) (σ := σ) hO (nI a) a rfl (by omega)) wm_L_95 wo_X9_starOf ws_X9__X9_starOf wz_X9 wc_X9_starOf ⟨by decide, by decide, by decide +kernel⟩ rfl ⟨Nat.le_of_ble_eq_true rfl, Nat.le_of_ble_eq_true rfl⟩ (ci := 8) (SBH.rec hB) rfl hB hS noA_old ⟨Nat.zero_le _, Nat.zero_le _⟩ hl.1 rfl (Nat.le_of_ble_eq_true rfl) dL_areOrders_198) ?_
          refine lv_aload_n hx hb dL_areOrders_201 rfl (lv_at hl 2 rfl) ?_
          refine lv_iload hx hb dL_areOrders_202 (lv_at hl 0 rfl) ?_
          refine lv_iconst (v := 0) hx hb dL_areOrders_204 (by decide) ?_
          refine core_p (v := .int (σ.1.1 0 b)) (grV (n := 2) (As := [.int (nI b), .int 0]) (rest := [.int (σ.1.1 0 a)]) h0 hF (m_X9_starOf_0 h0 (cm := cm) (o := o) (σ := σ) hO (nI b) b rfl (by omega)) wm_L_95 wo_X9_starOf ws_X9__X9_starOf wz_X9 wc_X9_starOf ⟨by decide, by decide, by decide +kernel⟩ rfl ⟨Nat.le_of_ble_eq_true rfl, Nat.le_of_ble_eq_true rfl⟩ (ci := 8) (SBH.rec hB) rfl hB hS noA_old ⟨Nat.zero_le _, Nat.zero_le _⟩ hl.1 rfl (Nat.le_of_ble_eq_true rfl) dL_areOrders_205) ?_
          refine lv_isub hx hb dL_areOrders_208 ?_
          refine lv_istore (lv' := [(7, .int ((σ.1.1 0 a) - (σ.1.1 0 b))), (6, .int (nI b)), (5, .int (nI a)), (0, .ref o), (1, .int (nI (σ.1.2 1))), (2, .int (nI (σ.1.2 0))), (3, .int 1), (4, .int (nI pl))]) hx hb dL_areOrders_209 hl (by decide) rfl (fun ls hl => ?_)
          refine lv_aload_n hx hb dL_areOrders_211 rfl (lv_at hl 3 rfl) ?_
          refine lv_iload hx hb dL_areOrders_212 (lv_at hl 2 rfl) ?_
          refine lv_iconst (v := 4) hx hb dL_areOrders_214 (by decide) ?_
          refine core_p (v := .int (σ.1.1 3 a)) (grV (n := 2) (As := [.int (nI a), .int 4]) (rest := []) h0 hF (m_X9_starOf_4 h0 (cm := cm) (o := o) (σ := σ) hO (nI a) a rfl (by omega)) wm_L_95 wo_X9_starOf ws_X9__X9_starOf wz_X9 wc_X9_starOf ⟨by decide, by decide, by decide +kernel⟩ rfl ⟨Nat.le_of_ble_eq_true rfl, Nat.le_of_ble_eq_true rfl⟩ (ci := 8) (SBH.rec hB) rfl hB hS noA_old ⟨Nat.zero_le _, Nat.zero_le _⟩ hl.1 rfl (Nat.le_of_ble_eq_true rfl) dL_areOrders_215) ?_
          refine lv_aload_n hx hb dL_areOrders_218 rfl (lv_at hl 3 rfl) ?_
          refine lv_iload hx hb dL_areOrders_219 (lv_at hl 1 rfl) ?_
          refine lv_iconst (v := 4) hx hb dL_areOrders_221 (by decide) ?_
          refine core_p (v := .int (σ.1.1 3 b)) (grV (n := 2) (As := [.int (nI b), .int 4]) (rest := [.int (σ.1.1 3 a)]) h0 hF (m_X9_starOf_4 h0 (cm := cm) (o := o) (σ := σ) hO (nI b) b rfl (by omega)) wm_L_95 wo_X9_starOf ws_X9__X9_starOf wz_X9 wc_X9_starOf ⟨by decide, by decide, by decide +kernel⟩ rfl ⟨Nat.le_of_ble_eq_true rfl, Nat.le_of_ble_eq_true rfl⟩ (ci := 8) (SBH.rec hB) rfl hB hS noA_old ⟨Nat.zero_le _, Nat.zero_le _⟩ hl.1 rfl (Nat.le_of_ble_eq_true rfl) dL_areOrders_222) ?_
          refine lv_isub hx hb dL_areOrders_225 ?_
          refine lv_istore (lv' := [(8, .int ((σ.1.1 3 a) - (σ.1.1 3 b))), (7, .int ((σ.1.1 0 a) - (σ.1.1 0 b))), (6, .int (nI b)), (5, .int (nI a)), (0, .ref o), (1, .int (nI (σ.1.2 1))), (2, .int (nI (σ.1.2 0))), (3, .int 1), (4, .int (nI pl))]) hx hb dL_areOrders_226 hl (by decide) rfl (fun ls hl => ?_)
          have hJ_228 : ∀ v9 : Int32, v9 = 1 → W p l e ({ frames := 5, cells := 0, slots := 0, locals := 116 } : Room) s m ([.ref o] : List Value).toArray below meth c s.heap [] 0 0 (MQ below (qP (.int 1)) ([.ref o] : List Value).toArray s 0 0 noA) (F0 m 260 ls (.int v9 :: [])) := by
            intro v9 hv9
            subst hv9
            refine lv_istore_n (lv' := [(3, .int 1), (8, .int ((σ.1.1 3 a) - (σ.1.1 3 b))), (7, .int ((σ.1.1 0 a) - (σ.1.1 0 b))), (6, .int (nI b)), (5, .int (nI a)), (0, .ref o), (1, .int (nI (σ.1.2 1))), (2, .int (nI (σ.1.2 0))), (4, .int (nI pl))]) hx hb dL_areOrders_260 rfl hl (by decide) rfl (fun ls hl => ?_)
            refine lv_iinc (v := nI (pl + 1)) (lv' := [(4, .int (nI (pl + 1))), (3, .int 1), (8, .int ((σ.1.1 3 a) - (σ.1.1 3 b))), (7, .int ((σ.1.1 0 a) - (σ.1.1 0 b))), (6, .int (nI b)), (5, .int (nI a)), (0, .ref o), (1, .int (nI (σ.1.2 1))), (2, .int (nI (σ.1.2 0)))]) hx hb dL_areOrders_261 hl (k := 8) rfl (nI_1 pl) (by decide) rfl (fun ls hl => ?_)
            refine lv_goto (tgt := 166) hx hb dL_areOrders_264 (by decide) ?_
            refine ih_166 (pl + 1) (by omega) (by omega) ls (lv_eqv (lv_sub (l' := [(0, .ref o), (1, .int (nI (σ.1.2 1))), (2, .int (nI (σ.1.2 0))), (3, .int 1), (4, .int (nI (pl + 1)))]) hl [6, 7, 8, 1, 0] rfl) ?_)
            rfl
          refine lv_iload hx hb dL_areOrders_228 (lv_at hl 1 rfl) ?_
          refine lv_if_gt (tgt := 255) hx hb dL_areOrders_230 (by decide) (fun c_230 => ?_) (fun c_230 => ?_)
          · have n_230 := Int32.not_le.mpr c_230
            refine lv_iconst (v := 1) hx hb dL_areOrders_255 (by decide) ?_
            refine lv_goto (tgt := 260) hx hb dL_areOrders_256 (by decide) ?_
            exact hJ_228 _ (rfl)
          · have n_230 := Int32.not_lt.mp c_230
            refine lv_iload hx hb dL_areOrders_233 (lv_at hl 1 rfl) ?_
            refine lv_if_ne (tgt := 259) hx hb dL_areOrders_235 (by decide) (fun c_235 => ?_) (fun c_235 => ?_)
            · refine lv_iconst (v := 0) hx hb dL_areOrders_259 (by decide) ?_
              exact hJ_228 _ (by exfalso; rcases hcd with h | ⟨h1, h | ⟨h2, h3⟩⟩ <;> contradiction)
            · refine lv_iload hx hb dL_areOrders_238 (lv_at hl 0 rfl) ?_
              refine lv_if_gt (tgt := 255) hx hb dL_areOrders_240 (by decide) (fun c_240 => ?_) (fun c_240 => ?_)
              · have n_240 := Int32.not_le.mpr c_240
                refine lv_iconst (v := 1) hx hb dL_areOrders_255 (by decide) ?_
                refine lv_goto (tgt := 260) hx hb dL_areOrders_256 (by decide) ?_
                exact hJ_228 _ (rfl)
              · have n_240 := Int32.not_lt.mp c_240
                refine lv_iload hx hb dL_areOrders_243 (lv_at hl 0 rfl) ?_
                refine lv_if_ne (tgt := 259) hx hb dL_areOrders_245 (by decide) (fun c_245 => ?_) (fun c_245 => ?_)
                · refine lv_iconst (v := 0) hx hb dL_areOrders_259 (by decide) ?_
                  exact hJ_228 _ (by exfalso; rcases hcd with h | ⟨h1, h | ⟨h2, h3⟩⟩ <;> contradiction)
                · refine lv_iload hx hb dL_areOrders_248 (lv_at hl 3 rfl) ?_
                  refine lv_iload hx hb dL_areOrders_250 (lv_at hl 2 rfl) ?_
                  refine lv_icmp_ge (tgt := 259) hx hb dL_areOrders_252 (by decide) (fun c_252 => ?_) (fun c_252 => ?_)
                  · have n_252 := Int32.not_lt.mpr c_252
                    refine lv_iconst (v := 0) hx hb dL_areOrders_259 (by decide) ?_
                    exact hJ_228 _ (by exfalso; rcases hcd with h | ⟨h1, h | ⟨h2, h3⟩⟩ <;> contradiction)
                  · have n_252 := Int32.not_le.mp c_252
                    refine lv_iconst (v := 1) hx hb dL_areOrders_255 (by decide) ?_
                    refine lv_goto (tgt := 260) hx hb dL_areOrders_256 (by decide) ?_
                    exact hJ_228 _ (rfl)
      exact key_166 (max 1 (σ.1.2 0) - 1) 1 (by omega) (Nat.le_refl 1) ls (lv_sub hl [1, 2, 3, 4, 0] rfl)
    | succ nf ih_48 =>
      intro pl hpl hx_pl ls hl
      have hpl_l : pl < max 1 (σ.1.2 1) := by omega
      have hpl_l : pl < σ.1.2 1 := by omega
      obtain ⟨a, b, ha, hb9, ea, eb, hcd⟩ := hq4 pl hx_pl hpl_l
      refine lv_iload_n hx hb dL_areOrders_48 rfl (lv_at hl 3 rfl) ?_
      refine lv_if_eq (tgt := 163) hx hb dL_areOrders_49 (by decide) (fun c_49 => absurd c_49 (by decide)) (fun c_49 => ?_)
      refine lv_iload hx hb dL_areOrders_52 (lv_at hl 4 rfl) ?_
      refine lv_iload_n hx hb dL_areOrders_54 rfl (lv_at hl 1 rfl) ?_
      refine lv_icmp_ge (tgt := 163) hx hb dL_areOrders_55 (by decide) (fun c_55 => absurd c_55 (nI_ge (a := pl) (b := σ.1.2 1) (by omega) (by omega))) (fun c_55 => ?_)
      have n_55 := Int32.not_le.mp c_55
      refine lv_aload_n hx hb dL_areOrders_58 rfl (lv_at hl 0 rfl) ?_
      refine lv_iload hx hb dL_areOrders_59 (lv_at hl 4 rfl) ?_
      refine lv_iconst (v := 1) hx hb dL_areOrders_61 (by decide) ?_
      refine lv_isub hx hb dL_areOrders_62 ?_
      refine lv_topE (y := nI (pl - 1)) (nI_p1 hx_pl) ?_
      refine core_p (v := .int (fnd (fun z => decide (nI (rankR σ.1 z) = (nI (pl - 1)))) (-1) (σ.1.2 1) 0)) (grV (n := 1) (As := [.int (nI (pl - 1))]) (rest := []) h0 hF (m_X9_richest h0 (cm := cm) (o := o) (σ := σ) hO (nI (pl - 1))) wm_L_177 wo_X9_richest ws_X9__X9_richest wz_X9 wc_X9_richest ⟨by decide, by decide, by decide +kernel⟩ rfl ⟨Nat.le_of_ble_eq_true rfl, Nat.le_of_ble_eq_true rfl⟩ (ci := 8) (SBH.rec hB) rfl hB hS noA_old ⟨Nat.zero_le _, Nat.zero_le _⟩ hl.1 rfl (Nat.le_of_ble_eq_true rfl) dL_areOrders_63) ?_
      refine lv_topE (y := nI a) (ea) ?_
      refine lv_istore (lv' := [(5, .int (nI a)), (0, .ref o), (1, .int (nI (σ.1.2 1))), (2, .int (nI (σ.1.2 0))), (3, .int 1), (4, .int (nI pl))]) hx hb dL_areOrders_66 hl (by decide) rfl (fun ls hl => ?_)
      refine lv_aload_n hx hb dL_areOrders_68 rfl (lv_at hl 1 rfl) ?_
      refine lv_iload hx hb dL_areOrders_69 (lv_at hl 5 rfl) ?_
      refine core_p (v := .int (fnd (fun z => decide (nI (rankR σ.1 z) = (nI pl))) (-1) (σ.1.2 1) 0)) (grV (n := 1) (As := [.int (nI pl)]) (rest := []) h0 hF (m_X9_richest h0 (cm := cm) (o := o) (σ := σ) hO (nI pl)) wm_L_177 wo_X9_richest ws_X9__X9_richest wz_X9 wc_X9_richest ⟨by decide, by decide, by decide +kernel⟩ rfl ⟨Nat.le_of_ble_eq_true rfl, Nat.le_of_ble_eq_true rfl⟩ (ci := 8) (SBH.rec hB) rfl hB hS noA_old ⟨Nat.zero_le _, Nat.zero_le _⟩ hl.1 rfl (Nat.le_of_ble_eq_true rfl) dL_areOrders_71) ?_
      refine lv_topE (y := nI b) (eb) ?_
      refine lv_istore (lv' := [(6, .int (nI b)), (5, .int (nI a)), (0, .ref o), (1, .int (nI (σ.1.2 1))), (2, .int (nI (σ.1.2 0))), (3, .int 1), (4, .int (nI pl))]) hx hb dL_areOrders_74 hl (by decide) rfl (fun ls hl => ?_)
      refine lv_aload_n hx hb dL_areOrders_76 rfl (lv_at hl 2 rfl) ?_
      refine lv_iload hx hb dL_areOrders_77 (lv_at hl 1 rfl) ?_
      refine lv_iconst (v := 0) hx hb dL_areOrders_79 (by decide) ?_
      refine core_p (v := .int (σ.1.1 5 a)) (grV (n := 2) (As := [.int (nI a), .int 0]) (rest := []) h0 hF (m_X9_roofOf_0 h0 (cm := cm) (o := o) (σ := σ) hO (nI a) a rfl (by omega)) wm_L_98 wo_X9_roofOf ws_X9__X9_roofOf wz_X9 wc_X9_roofOf ⟨by decide, by decide, by decide +kernel⟩ rfl ⟨Nat.le_of_ble_eq_true rfl, Nat.le_of_ble_eq_true rfl⟩ (ci := 8) (SBH.rec hB) rfl hB hS noA_old ⟨Nat.zero_le _, Nat.zero_le _⟩ hl.1 rfl (Nat.le_of_ble_eq_true rfl) dL_areOrders_80) ?_
      refine lv_aload_n hx hb dL_areOrders_83 rfl (lv_at hl 2 rfl) ?_
      refine lv_iload hx hb dL_areOrders_84 (lv_at hl 1 rfl) ?_
      refine core_p (v := .int (σ.1.1 6 a)) (grV (n := 1) (As := [.int (nI a)]) (rest := [.int (σ.1.1 5 a)]) h0 hF (m_X9_debt h0 (cm := cm) (o := o) (σ := σ) hO (nI a) a rfl (by omega)) wm_L_101 wo_X9_debt ws_X9__X9_debt wz_X9 wc_X9_debt ⟨by decide, by decide, by decide +kernel⟩ rfl ⟨Nat.le_of_ble_eq_true rfl, Nat.le_of_ble_eq_true rfl⟩ (ci := 8) (SBH.rec hB) rfl hB hS noA_old ⟨Nat.zero_le _, Nat.zero_le _⟩ hl.1 rfl (Nat.le_of_ble_eq_true rfl) dL_areOrders_86) ?_
      refine lv_isub hx hb dL_areOrders_89 ?_
      refine lv_aload_n hx hb dL_areOrders_90 rfl (lv_at hl 2 rfl) ?_
      refine lv_iload hx hb dL_areOrders_91 (lv_at hl 0 rfl) ?_
      refine lv_iconst (v := 0) hx hb dL_areOrders_93 (by decide) ?_
      refine core_p (v := .int (σ.1.1 5 b)) (grV (n := 2) (As := [.int (nI b), .int 0]) (rest := [.int ((σ.1.1 5 a) - (σ.1.1 6 a))]) h0 hF (m_X9_roofOf_0 h0 (cm := cm) (o := o) (σ := σ) hO (nI b) b rfl (by omega)) wm_L_98 wo_X9_roofOf ws_X9__X9_roofOf wz_X9 wc_X9_roofOf ⟨by decide, by decide, by decide +kernel⟩ rfl ⟨Nat.le_of_ble_eq_true rfl, Nat.le_of_ble_eq_true rfl⟩ (ci := 8) (SBH.rec hB) rfl hB hS noA_old ⟨Nat.zero_le _, Nat.zero_le _⟩ hl.1 rfl (Nat.le_of_ble_eq_true rfl) dL_areOrders_94) ?_
      refine lv_isub hx hb dL_areOrders_97 ?_
      refine lv_aload_n hx hb dL_areOrders_98 rfl (lv_at hl 2 rfl) ?_
      refine lv_iload hx hb dL_areOrders_99 (lv_at hl 0 rfl) ?_
      refine core_p (v := .int (σ.1.1 6 b)) (grV (n := 1) (As := [.int (nI b)]) (rest := [.int (((σ.1.1 5 a) - (σ.1.1 6 a)) - (σ.1.1 5 b))]) h0 hF (m_X9_debt h0 (cm := cm) (o := o) (σ := σ) hO (nI b) b rfl (by omega)) wm_L_101 wo_X9_debt ws_X9__X9_debt wz_X9 wc_X9_debt ⟨by decide, by decide, by decide +kernel⟩ rfl ⟨Nat.le_of_ble_eq_true rfl, Nat.le_of_ble_eq_true rfl⟩ (ci := 8) (SBH.rec hB) rfl hB hS noA_old ⟨Nat.zero_le _, Nat.zero_le _⟩ hl.1 rfl (Nat.le_of_ble_eq_true rfl) dL_areOrders_101) ?_
      refine lv_iadd hx hb dL_areOrders_104 ?_
      refine lv_istore (lv' := [(7, .int ((((σ.1.1 5 a) - (σ.1.1 6 a)) - (σ.1.1 5 b)) + (σ.1.1 6 b))), (6, .int (nI b)), (5, .int (nI a)), (0, .ref o), (1, .int (nI (σ.1.2 1))), (2, .int (nI (σ.1.2 0))), (3, .int 1), (4, .int (nI pl))]) hx hb dL_areOrders_105 hl (by decide) rfl (fun ls hl => ?_)
      refine lv_aload_n hx hb dL_areOrders_107 rfl (lv_at hl 3 rfl) ?_
      refine lv_iload hx hb dL_areOrders_108 (lv_at hl 1 rfl) ?_
      refine lv_iconst (v := 2) hx hb dL_areOrders_110 (by decide) ?_
      refine core_p (v := .int (roofV σ.1 b 2)) (grV (n := 2) (As := [.int (nI b), .int 2]) (rest := []) h0 hF (m_X9_roofOf_2 h0 (cm := cm) (o := o) (σ := σ) hO (nI b) b rfl (by omega)) wm_L_98 wo_X9_roofOf ws_X9__X9_roofOf wz_X9 wc_X9_roofOf ⟨by decide, by decide, by decide +kernel⟩ rfl ⟨Nat.le_of_ble_eq_true rfl, Nat.le_of_ble_eq_true rfl⟩ (ci := 8) (SBH.rec hB) rfl hB hS noA_old ⟨Nat.zero_le _, Nat.zero_le _⟩ hl.1 rfl (Nat.le_of_ble_eq_true rfl) dL_areOrders_111) ?_
      refine lv_aload_n hx hb dL_areOrders_114 rfl (lv_at hl 3 rfl) ?_
      refine lv_iload hx hb dL_areOrders_115 (lv_at hl 2 rfl) ?_
      refine lv_iconst (v := 2) hx hb dL_areOrders_117 (by decide) ?_
      refine core_p (v := .int (roofV σ.1 a 2)) (grV (n := 2) (As := [.int (nI a), .int 2]) (rest := [.int (roofV σ.1 b 2)]) h0 hF (m_X9_roofOf_2 h0 (cm := cm) (o := o) (σ := σ) hO (nI a) a rfl (by omega)) wm_L_98 wo_X9_roofOf ws_X9__X9_roofOf wz_X9 wc_X9_roofOf ⟨by decide, by decide, by decide +kernel⟩ rfl ⟨Nat.le_of_ble_eq_true rfl, Nat.le_of_ble_eq_true rfl⟩ (ci := 8) (SBH.rec hB) rfl hB hS noA_old ⟨Nat.zero_le _, Nat.zero_le _⟩ hl.1 rfl (Nat.le_of_ble_eq_true rfl) dL_areOrders_118) ?_
      refine lv_isub hx hb dL_areOrders_121 ?_
      refine lv_istore (lv' := [(8, .int ((roofV σ.1 b 2) - (roofV σ.1 a 2))), (7, .int ((((σ.1.1 5 a) - (σ.1.1 6 a)) - (σ.1.1 5 b)) + (σ.1.1 6 b))), (6, .int (nI b)), (5, .int (nI a)), (0, .ref o), (1, .int (nI (σ.1.2 1))), (2, .int (nI (σ.1.2 0))), (3, .int 1), (4, .int (nI pl))]) hx hb dL_areOrders_122 hl (by decide) rfl (fun ls hl => ?_)
      have hJ_124 : ∀ v9 : Int32, v9 = 1 → W p l e ({ frames := 5, cells := 0, slots := 0, locals := 116 } : Room) s m ([.ref o] : List Value).toArray below meth c s.heap [] 0 0 (MQ below (qP (.int 1)) ([.ref o] : List Value).toArray s 0 0 noA) (F0 m 156 ls (.int v9 :: [])) := by
        intro v9 hv9
        subst hv9
        refine lv_istore_n (lv' := [(3, .int 1), (8, .int ((roofV σ.1 b 2) - (roofV σ.1 a 2))), (7, .int ((((σ.1.1 5 a) - (σ.1.1 6 a)) - (σ.1.1 5 b)) + (σ.1.1 6 b))), (6, .int (nI b)), (5, .int (nI a)), (0, .ref o), (1, .int (nI (σ.1.2 1))), (2, .int (nI (σ.1.2 0))), (4, .int (nI pl))]) hx hb dL_areOrders_156 rfl hl (by decide) rfl (fun ls hl => ?_)
        refine lv_iinc (v := nI (pl + 1)) (lv' := [(4, .int (nI (pl + 1))), (3, .int 1), (8, .int ((roofV σ.1 b 2) - (roofV σ.1 a 2))), (7, .int ((((σ.1.1 5 a) - (σ.1.1 6 a)) - (σ.1.1 5 b)) + (σ.1.1 6 b))), (6, .int (nI b)), (5, .int (nI a)), (0, .ref o), (1, .int (nI (σ.1.2 1))), (2, .int (nI (σ.1.2 0)))]) hx hb dL_areOrders_157 hl (k := 8) rfl (nI_1 pl) (by decide) rfl (fun ls hl => ?_)
        refine lv_goto (tgt := 48) hx hb dL_areOrders_160 (by decide) ?_
        refine ih_48 (pl + 1) (by omega) (by omega) ls (lv_eqv (lv_sub (l' := [(0, .ref o), (1, .int (nI (σ.1.2 1))), (2, .int (nI (σ.1.2 0))), (3, .int 1), (4, .int (nI (pl + 1)))]) hl [6, 7, 8, 1, 0] rfl) ?_)
        rfl
      refine lv_iload hx hb dL_areOrders_124 (lv_at hl 1 rfl) ?_
      refine lv_if_gt (tgt := 151) hx hb dL_areOrders_126 (by decide) (fun c_126 => ?_) (fun c_126 => ?_)
      · have n_126 := Int32.not_le.mpr c_126
        refine lv_iconst (v := 1) hx hb dL_areOrders_151 (by decide) ?_
        refine lv_goto (tgt := 156) hx hb dL_areOrders_152 (by decide) ?_
        exact hJ_124 _ (rfl)
      · have n_126 := Int32.not_lt.mp c_126
        refine lv_iload hx hb dL_areOrders_129 (lv_at hl 1 rfl) ?_
        refine lv_if_ne (tgt := 155) hx hb dL_areOrders_131 (by decide) (fun c_131 => ?_) (fun c_131 => ?_)
        · refine lv_iconst (v := 0) hx hb dL_areOrders_155 (by decide) ?_
          exact hJ_124 _ (by exfalso; rcases hcd with h | ⟨h1, h | ⟨h2, h3⟩⟩ <;> contradiction)
        · refine lv_iload hx hb dL_areOrders_134 (lv_at hl 0 rfl) ?_
          refine lv_if_gt (tgt := 151) hx hb dL_areOrders_136 (by decide) (fun c_136 => ?_) (fun c_136 => ?_)
          · have n_136 := Int32.not_le.mpr c_136
            refine lv_iconst (v := 1) hx hb dL_areOrders_151 (by decide) ?_
            refine lv_goto (tgt := 156) hx hb dL_areOrders_152 (by decide) ?_
            exact hJ_124 _ (rfl)
          · have n_136 := Int32.not_lt.mp c_136
            refine lv_iload hx hb dL_areOrders_139 (lv_at hl 0 rfl) ?_
            refine lv_if_ne (tgt := 155) hx hb dL_areOrders_141 (by decide) (fun c_141 => ?_) (fun c_141 => ?_)
            · refine lv_iconst (v := 0) hx hb dL_areOrders_155 (by decide) ?_
              exact hJ_124 _ (by exfalso; rcases hcd with h | ⟨h1, h | ⟨h2, h3⟩⟩ <;> contradiction)
            · refine lv_iload hx hb dL_areOrders_144 (lv_at hl 3 rfl) ?_
              refine lv_iload hx hb dL_areOrders_146 (lv_at hl 2 rfl) ?_
              refine lv_icmp_ge (tgt := 155) hx hb dL_areOrders_148 (by decide) (fun c_148 => ?_) (fun c_148 => ?_)
              · have n_148 := Int32.not_lt.mpr c_148
                refine lv_iconst (v := 0) hx hb dL_areOrders_155 (by decide) ?_
                exact hJ_124 _ (by exfalso; rcases hcd with h | ⟨h1, h | ⟨h2, h3⟩⟩ <;> contradiction)
              · have n_148 := Int32.not_le.mp c_148
                refine lv_iconst (v := 1) hx hb dL_areOrders_151 (by decide) ?_
                refine lv_goto (tgt := 156) hx hb dL_areOrders_152 (by decide) ?_
                exact hJ_124 _ (rfl)
  exact key_48 (max 1 (σ.1.2 1) - 1) 1 (by omega) (Nat.le_refl 1) ls (lv_sub hl [4, 3, 2, 1, 0] rfl)
