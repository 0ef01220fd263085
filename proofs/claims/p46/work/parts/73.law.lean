theorem irem_nI {r n : Nat} (hr : r < 100) (hn : n < 100) (h0 : 0 < n) : nI r - nI r / nI n * nI n = nI (r % n) := by
  have h : ∀ n, n < 100 → 0 < n → ∀ r, r < 100 → nI r - nI r / nI n * nI n = nI (r % n) := by decide +kernel
  exact h n hn h0 r hr
theorem Nx.chain {M : Nat} {σ ρ τ : Sb} (h : Nx M σ ρ) {c M' : Nat} (h2 : Nx (M + c) ρ τ) (he : M + c = M') : Nx M' σ τ := he ▸ Nx.trans h h2

set_option maxHeartbeats 4000000 in
set_option maxRecDepth 100000 in
theorem m_L_isFit {X : Cx} {l : Launch} (h0 : Init X) {cm : Nat → Nat} {o : Nat} {σ : Sb} {sm N : Nat} (hC : StC X cm sm) (hI : GI N σ) (hN : N + 21 ≤ 1000000) : MM X l yL_isFit cL_isFit 3 (some .boolean) 10 257 438 56940 [.ref o] (SBH X cm o σ) (fun v H => v = some (.int 1) ∧ ∃ τ, Nx (N + 21) σ τ ∧ SBH X cm o τ H) (gA X) := by
  refine Met.mk (Bh := (SBH X cm o σ)) (by decide) (Nat.le_of_ble_eq_true rfl) ?_
  intro p e s m below meth c ls hF hB hl
  have hl : lv_has ls 3 [(0, .ref o)] := hl
  obtain ⟨hx, hb, hml, hr, hlk, hown, hG⟩ := id hF
  have hK := hG.K h0
  have hS : va_S (gA X) s.heap s.heap [] := va_S.rf
  have hAo : ∀ q, q < X.z → ¬ gA X q := fun q h9 (h8 : X.z ≤ q) => by omega
  have hGσ := hI
  have hOσ := hGσ.O
  have hOcσ := hGσ.Oc
  have hPσ := hGσ.P
  have hWσ := hGσ.2.1.well hGσ.1
  have hExσ := hGσ.2.1.exempt hGσ.1
  have hRFσ := hGσ.2.1.RF hGσ.1
  have hO1σ := hOσ.1
  have hO2σ := hOσ.2.1
  have hO3σ := hOσ.2.2.1
  have hOFσ := hI.2.1.OF hI.1
  refine lv_aload_n hx hb dL_isFit_0 rfl (lv_at hl 0 rfl) ?_
  refine core_m (A1 := gA X) (grS (Bh := (SBH X cm o σ)) (n := 1) (As := [.ref o]) (rest := []) h0 hF (m_L_areStars h0 (cm := cm) (o := o) (σ := σ) hOσ hOcσ hWσ hExσ) wm_L_170 wt_L_areStars wz_L wc_L_areStars ⟨by decide, by decide, by decide +kernel⟩ rfl ⟨Nat.le_of_ble_eq_true rfl, Nat.le_of_ble_eq_true rfl⟩ hB hS hAo ⟨Nat.le_of_ble_eq_true rfl, Nat.le_of_ble_eq_true rfl⟩ hl.1 rfl (Nat.le_of_ble_eq_true rfl) dL_isFit_1) hS (fun q h8 => h8) (fun v' H locs hq' hz1 hk1 hS => ?_)
  obtain ⟨rfl, hB⟩ := hq'
  refine lv_if_eq (tgt := 32) hx hb dL_isFit_4 (by decide) (fun c_4 => absurd c_4 (by decide)) (fun c_4 => ?_)
  refine lv_aload_n hx hb dL_isFit_7 rfl (lv_at hl 0 rfl) ?_
  refine core_m (A1 := gA X) (grS (Bh := (SBH X cm o σ)) (n := 1) (As := [.ref o]) (rest := []) h0 hF (m_L_areRoofs h0 (cm := cm) (o := o) (σ := σ) hOσ hWσ hRFσ) wm_L_174 wt_L_areRoofs wz_L wc_L_areRoofs ⟨by decide, by decide, by decide +kernel⟩ rfl ⟨Nat.le_of_ble_eq_true rfl, Nat.le_of_ble_eq_true rfl⟩ hB hS hAo ⟨Nat.le_of_ble_eq_true rfl, Nat.le_of_ble_eq_true rfl⟩ hl.1 rfl (Nat.le_of_ble_eq_true rfl) dL_isFit_8) hS (fun q h8 => h8) (fun v' H locs hq' hz1 hk1 hS => ?_)
  obtain ⟨rfl, hB⟩ := hq'
  refine lv_if_eq (tgt := 32) hx hb dL_isFit_11 (by decide) (fun c_11 => absurd c_11 (by decide)) (fun c_11 => ?_)
  refine lv_aload_n hx hb dL_isFit_14 rfl (lv_at hl 0 rfl) ?_
  refine core_p (v := .int 1) (grS (n := 1) (As := [.ref o]) (rest := []) h0 hF (m_L_areOrders h0 (cm := cm) (o := o) (σ := σ) hOσ hOFσ ) wm_L_186 wt_L_areOrders wz_L wc_L_areOrders ⟨by decide, by decide, by decide +kernel⟩ rfl ⟨Nat.le_of_ble_eq_true rfl, Nat.le_of_ble_eq_true rfl⟩ hB hS hAo ⟨Nat.le_of_ble_eq_true rfl, Nat.le_of_ble_eq_true rfl⟩ hl.1 rfl (Nat.le_of_ble_eq_true rfl) dL_isFit_15) ?_
  refine lv_if_eq (tgt := 32) hx hb dL_isFit_18 (by decide) (fun c_18 => absurd c_18 (by decide)) (fun c_18 => ?_)
  refine lv_aload_n hx hb dL_isFit_21 rfl (lv_at hl 0 rfl) ?_
  refine core_m (A1 := gA X) (grS (Bh := (SBH X cm o σ)) (n := 1) (As := [.ref o]) (rest := []) h0 hF (m_L_isDawn h0 (cm := cm) (o := o) (σ := σ) hC hI (by omega)) wm_L_189 wt_L_isDawn wz_L wc_L_isDawn ⟨by decide, by decide, by decide +kernel⟩ rfl ⟨Nat.le_of_ble_eq_true rfl, Nat.le_of_ble_eq_true rfl⟩ hB hS hAo ⟨Nat.le_of_ble_eq_true rfl, Nat.le_of_ble_eq_true rfl⟩ hl.1 rfl (Nat.le_of_ble_eq_true rfl) dL_isFit_22) hS (fun q h8 => h8) (fun v' H locs hq' hz1 hk1 hS => ?_)
  obtain ⟨rfl, τ, hNτ, hB⟩ := hq'
  have hGτ := hNτ.1
  have hOτ := hGτ.O
  have hτ1 : τ.1 = σ.1 := hNτ.2.1
  refine lv_if_eq (tgt := 32) hx hb dL_isFit_25 (by decide) (fun c_25 => absurd c_25 (by decide)) (fun c_25 => ?_)
  refine lv_iconst (v := 1) hx hb dL_isFit_28 (by decide) ?_
  refine lv_goto (tgt := 33) hx hb dL_isFit_29 (by decide) ?_
  refine lv_istore_n (lv' := [(1, .int 1), (0, .ref o)]) hx hb dL_isFit_33 rfl hl (by decide) rfl (fun ls hl => ?_)
  refine lv_iconst (v := 0) hx hb dL_isFit_34 (by decide) ?_
  refine lv_istore_n (lv' := [(2, .int 0), (1, .int 1), (0, .ref o)]) hx hb dL_isFit_35 rfl hl (by decide) rfl (fun ls hl => ?_)
  have key_36 : ∀ (nf r : Nat), r + nf = σ.1.2 1 → ∀ (ρ : Sb), (Nx (N + 1 + 4 * r) σ ρ) → ∀ (H : Heap) (locs : List Loc), SBH X cm o ρ H → va_S (gA X) s.heap H locs → ∀ (ls : Array Slot), lv_has ls 3 [(0, .ref o), (1, .int 1), (2, .int (nI r))] → W p l e ({ frames := 10, cells := 438, slots := 56940, locals := 257 } : Room) s m ([.ref o] : List Value).toArray below meth c H locs (188 + 50 * r) (24440 + 6500 * r) (MQ below (qM (fun v H => v = some (.int 1) ∧ ∃ τ, Nx (N + 21) σ τ ∧ SBH X cm o τ H) (gA X)) ([.ref o] : List Value).toArray s 438 56940 (gA X)) (F0 m 36 ls []) := by
    intro nf
    induction nf with
    | zero =>
      intro r hr ρ hx_r H locs hB hS ls hl
      have hr_e : r = σ.1.2 1 := by omega
      have hNρ := hx_r
      have hGρ := hNρ.1
      have hOρ := hGρ.O
      have hρ1 : ρ.1 = σ.1 := hNρ.2.1
      have hρ2 : ρ.1.2 1 = σ.1.2 1 := by rw [hρ1]
      refine lv_iload_n hx hb dL_isFit_36 rfl (lv_at hl 1 rfl) ?_
      refine lv_if_eq (tgt := 107) hx hb dL_isFit_37 (by decide) (fun c_37 => absurd c_37 (by decide)) (fun c_37 => ?_)
      refine lv_iload_n hx hb dL_isFit_40 rfl (lv_at hl 2 rfl) ?_
      refine lv_aload_n hx hb dL_isFit_41 rfl (lv_at hl 0 rfl) ?_
      refine lv_iconst (v := 1) hx hb dL_isFit_42 (by decide) ?_
      refine core_p (v := .int (nI (ρ.1.2 1))) (grV (n := 1) (As := [.int 1]) (rest := [.int (nI r)]) h0 hF (m_X9_account_1 h0 (cm := cm) (o := o) (σ := ρ) hOρ) wm_L_89 wo_X9_account ws_X9__X9_account wz_X9 wc_X9_account ⟨by decide, by decide, by decide +kernel⟩ rfl ⟨Nat.le_of_ble_eq_true rfl, Nat.le_of_ble_eq_true rfl⟩ (ci := 8) (SBH.rec hB) rfl hB hS hAo ⟨by show 188 + 50 * r + 0 ≤ 438; omega, by show 24440 + 6500 * r + 0 ≤ 56940; omega⟩ hl.1 rfl (Nat.le_of_ble_eq_true rfl) dL_isFit_43) ?_
      refine lv_icmp_ge (tgt := 107) hx hb dL_isFit_46 (by decide) (fun c_46 => ?_) (fun c_46 => absurd (by rw [hρ2]; exact nI_le (a := σ.1.2 1) (b := r) (by omega) (by omega)) c_46)
      have n_46 := Int32.not_lt.mpr c_46
      refine lv_iload_n hx hb dL_isFit_107 rfl (lv_at hl 1 rfl) ?_
      refine W.widen (k := 438) (n := 56940) (by omega) (by omega) ?_
      exact mm_zret hF hS dL_isFit_108 rfl (⟨rfl, ρ, ⟨hGρ.mono (by omega) (by omega), hNρ.2⟩, hB⟩)
    | succ nf ih_36 =>
      intro r hr ρ hx_r H locs hB hS ls hl
      have hr_l : r < σ.1.2 1 := by omega
      have hNρ := hx_r
      have hGρ := hNρ.1
      have hOρ := hGρ.O
      have hρ1 : ρ.1 = σ.1 := hNρ.2.1
      have hρ2 : ρ.1.2 1 = σ.1.2 1 := by rw [hρ1]
      refine lv_iload_n hx hb dL_isFit_36 rfl (lv_at hl 1 rfl) ?_
      refine lv_if_eq (tgt := 107) hx hb dL_isFit_37 (by decide) (fun c_37 => absurd c_37 (by decide)) (fun c_37 => ?_)
      refine lv_iload_n hx hb dL_isFit_40 rfl (lv_at hl 2 rfl) ?_
      refine lv_aload_n hx hb dL_isFit_41 rfl (lv_at hl 0 rfl) ?_
      refine lv_iconst (v := 1) hx hb dL_isFit_42 (by decide) ?_
      refine core_p (v := .int (nI (ρ.1.2 1))) (grV (n := 1) (As := [.int 1]) (rest := [.int (nI r)]) h0 hF (m_X9_account_1 h0 (cm := cm) (o := o) (σ := ρ) hOρ) wm_L_89 wo_X9_account ws_X9__X9_account wz_X9 wc_X9_account ⟨by decide, by decide, by decide +kernel⟩ rfl ⟨Nat.le_of_ble_eq_true rfl, Nat.le_of_ble_eq_true rfl⟩ (ci := 8) (SBH.rec hB) rfl hB hS hAo ⟨by show 188 + 50 * r + 0 ≤ 438; omega, by show 24440 + 6500 * r + 0 ≤ 56940; omega⟩ hl.1 rfl (Nat.le_of_ble_eq_true rfl) dL_isFit_43) ?_
      refine lv_icmp_ge (tgt := 107) hx hb dL_isFit_46 (by decide) (fun c_46 => absurd c_46 (by rw [hρ2]; exact nI_ge (a := r) (b := σ.1.2 1) (by omega) (by omega))) (fun c_46 => ?_)
      have n_46 := Int32.not_le.mp c_46
      refine lv_aload_n hx hb dL_isFit_49 rfl (lv_at hl 0 rfl) ?_
      refine lv_iload_n hx hb dL_isFit_50 rfl (lv_at hl 2 rfl) ?_
      refine core_m (A1 := gA X) (grS (Bh := (SBH X cm o ρ)) (n := 2) (As := [.ref o, .int (nI r)]) (rest := []) h0 hF (m_L_isPound h0 (cm := cm) (o := o) (σ := ρ) hC hGρ (by omega) (r := r) (by omega)) wm_L_192 wt_L_isPound wz_L wc_L_isPound ⟨by decide, by decide, by decide +kernel⟩ rfl ⟨Nat.le_of_ble_eq_true rfl, Nat.le_of_ble_eq_true rfl⟩ hB hS hAo ⟨by show 188 + 50 * r + 50 ≤ 438; omega, by show 24440 + 6500 * r + 6500 ≤ 56940; omega⟩ hl.1 rfl (Nat.le_of_ble_eq_true rfl) dL_isFit_51) hS (fun q h8 => h8) (fun v' H locs hq' hz1 hk1 hS => ?_)
      obtain ⟨rfl, π, hNπ, hB⟩ := hq'
      have hNπ := Nx.chain hNρ (c := 2) hNπ rfl
      have hGπ := hNπ.1
      have hOπ := hGπ.O
      have hπ1 : π.1 = σ.1 := hNπ.2.1
      have hπ2 : π.1.2 1 = σ.1.2 1 := by rw [hπ1]
      have hπ0 : π.1.2 0 = σ.1.2 0 := by rw [hπ1]
      refine lv_if_eq (tgt := 99) hx hb dL_isFit_54 (by decide) (fun c_54 => absurd c_54 (by decide)) (fun c_54 => ?_)
      refine lv_aload_n hx hb dL_isFit_57 rfl (lv_at hl 0 rfl) ?_
      refine lv_iconst (v := 0) hx hb dL_isFit_58 (by decide) ?_
      refine core_p (v := .int (nI (π.1.2 0))) (grV (n := 1) (As := [.int 0]) (rest := []) h0 hF (m_X9_account_0 h0 (cm := cm) (o := o) (σ := π) hOπ) wm_L_89 wo_X9_account ws_X9__X9_account wz_X9 wc_X9_account ⟨by decide, by decide, by decide +kernel⟩ rfl ⟨Nat.le_of_ble_eq_true rfl, Nat.le_of_ble_eq_true rfl⟩ (ci := 8) (SBH.rec hB) rfl hB hS hAo ⟨by show 188 + 50 * r + 50 + 0 ≤ 438; omega, by show 24440 + 6500 * r + 6500 + 0 ≤ 56940; omega⟩ hl.1 rfl (Nat.le_of_ble_eq_true rfl) dL_isFit_59) ?_
      refine lv_if_eq (tgt := 95) hx hb dL_isFit_62 (by decide) (fun c_62 => ?_) (fun c_62 => ?_)
      · refine lv_iconst (v := 1) hx hb dL_isFit_95 (by decide) ?_
        refine lv_goto (tgt := 100) hx hb dL_isFit_96 (by decide) ?_
        refine lv_istore_n (lv' := [(1, .int 1), (0, .ref o), (2, .int (nI r))]) hx hb dL_isFit_100 rfl hl (by decide) rfl (fun ls hl => ?_)
        refine lv_iinc (v := nI (r + 1)) (lv' := [(2, .int (nI (r + 1))), (1, .int 1), (0, .ref o)]) hx hb dL_isFit_101 hl (k := 2) rfl (nI_1 r) (by decide) rfl (fun ls hl => ?_)
        refine lv_goto (tgt := 36) hx hb dL_isFit_104 (by decide) ?_
        refine W.widen (k := 188 + 50 * (r + 1)) (n := 24440 + 6500 * (r + 1)) (by omega) (by omega) ?_
        refine ih_36 (r + 1) (by omega) π (⟨hGπ.mono (by omega) (by omega), hNπ.2⟩) _ _ hB hS ls (lv_eqv (lv_sub (l' := [(0, .ref o), (1, .int 1), (2, .int (nI (r + 1)))]) hl [2, 1, 0] rfl) ?_)
        rfl
      · have hne0 : 0 < π.1.2 0 := Nat.pos_of_ne_zero (fun h => c_62 (by rw [h]; rfl))
        refine lv_aload_n hx hb dL_isFit_65 rfl (lv_at hl 0 rfl) ?_
        refine lv_iload_n hx hb dL_isFit_66 rfl (lv_at hl 2 rfl) ?_
        refine lv_iload_n hx hb dL_isFit_67 rfl (lv_at hl 2 rfl) ?_
        refine lv_aload_n hx hb dL_isFit_68 rfl (lv_at hl 0 rfl) ?_
        refine lv_iconst (v := 0) hx hb dL_isFit_69 (by decide) ?_
        refine core_p (v := .int (nI (π.1.2 0))) (grV (n := 1) (As := [.int 0]) (rest := [.int (nI r), .int (nI r), .ref o]) h0 hF (m_X9_account_0 h0 (cm := cm) (o := o) (σ := π) hOπ) wm_L_89 wo_X9_account ws_X9__X9_account wz_X9 wc_X9_account ⟨by decide, by decide, by decide +kernel⟩ rfl ⟨Nat.le_of_ble_eq_true rfl, Nat.le_of_ble_eq_true rfl⟩ (ci := 8) (SBH.rec hB) rfl hB hS hAo ⟨by show 188 + 50 * r + 50 + 0 ≤ 438; omega, by show 24440 + 6500 * r + 6500 + 0 ≤ 56940; omega⟩ hl.1 rfl (Nat.le_of_ble_eq_true rfl) dL_isFit_70) ?_
        refine lv_irem hx hb dL_isFit_73 (by rw [hπ1]; exact nI_ne0 (by omega) (by omega)) ?_
        refine lv_topE (y := nI (r % π.1.2 0)) (irem_nI (by omega) (by omega) (by omega)) ?_
        refine core_m (A1 := gA X) (grS (Bh := (SBH X cm o π)) (n := 3) (As := [.ref o, .int (nI r), .int (nI (r % π.1.2 0))]) (rest := []) h0 hF (m_L_isSighted h0 (cm := cm) (o := o) (σ := π) hC hGπ (by omega) (r := r) (i := r % π.1.2 0) (by omega) (Nat.mod_lt _ (by omega))) wm_L_196 wt_L_isSighted wz_L wc_L_isSighted ⟨by decide, by decide, by decide +kernel⟩ rfl ⟨Nat.le_of_ble_eq_true rfl, Nat.le_of_ble_eq_true rfl⟩ hB hS hAo ⟨by show 188 + 50 * r + 50 + 0 ≤ 438; omega, by show 24440 + 6500 * r + 6500 + 0 ≤ 56940; omega⟩ hl.1 rfl (Nat.le_of_ble_eq_true rfl) dL_isFit_74) hS (fun q h8 => h8) (fun v' H locs hq' hz1 hk1 hS => ?_)
        obtain ⟨rfl, τ2, hNτ2, hB⟩ := hq'
        have hNτ2 := Nx.chain hNπ (c := 1) hNτ2 rfl
        have hGτ2 := hNτ2.1
        have hOτ2 := hGτ2.O
        have hτ21 : τ2.1 = σ.1 := hNτ2.2.1
        have hτ22 : τ2.1.2 1 = σ.1.2 1 := by rw [hτ21]
        have hτ20 : τ2.1.2 0 = σ.1.2 0 := by rw [hτ21]
        refine lv_if_eq (tgt := 99) hx hb dL_isFit_77 (by decide) (fun c_77 => absurd c_77 (by decide)) (fun c_77 => ?_)
        refine lv_aload_n hx hb dL_isFit_80 rfl (lv_at hl 0 rfl) ?_
        refine lv_iload_n hx hb dL_isFit_81 rfl (lv_at hl 2 rfl) ?_
        refine lv_aload_n hx hb dL_isFit_82 rfl (lv_at hl 0 rfl) ?_
        refine lv_iconst (v := 0) hx hb dL_isFit_83 (by decide) ?_
        refine core_p (v := .int (nI (τ2.1.2 0))) (grV (n := 1) (As := [.int 0]) (rest := [.int (nI r), .ref o]) h0 hF (m_X9_account_0 h0 (cm := cm) (o := o) (σ := τ2) hOτ2) wm_L_89 wo_X9_account ws_X9__X9_account wz_X9 wc_X9_account ⟨by decide, by decide, by decide +kernel⟩ rfl ⟨Nat.le_of_ble_eq_true rfl, Nat.le_of_ble_eq_true rfl⟩ (ci := 8) (SBH.rec hB) rfl hB hS hAo ⟨by show 188 + 50 * r + 50 + 0 ≤ 438; omega, by show 24440 + 6500 * r + 6500 + 0 ≤ 56940; omega⟩ hl.1 rfl (Nat.le_of_ble_eq_true rfl) dL_isFit_84) ?_
        refine lv_iconst (v := 1) hx hb dL_isFit_87 (by decide) ?_
        refine lv_isub hx hb dL_isFit_88 ?_
        refine lv_topE (y := nI (τ2.1.2 0 - 1)) (nI_p1 (by omega)) ?_
        refine core_m (A1 := gA X) (grS (Bh := (SBH X cm o τ2)) (n := 3) (As := [.ref o, .int (nI r), .int (nI (τ2.1.2 0 - 1))]) (rest := []) h0 hF (m_L_isSighted h0 (cm := cm) (o := o) (σ := τ2) hC hGτ2 (by omega) (r := r) (i := τ2.1.2 0 - 1) (by omega) (by omega)) wm_L_196 wt_L_isSighted wz_L wc_L_isSighted ⟨by decide, by decide, by decide +kernel⟩ rfl ⟨Nat.le_of_ble_eq_true rfl, Nat.le_of_ble_eq_true rfl⟩ hB hS hAo ⟨by show 188 + 50 * r + 50 + 0 ≤ 438; omega, by show 24440 + 6500 * r + 6500 + 0 ≤ 56940; omega⟩ hl.1 rfl (Nat.le_of_ble_eq_true rfl) dL_isFit_89) hS (fun q h8 => h8) (fun v' H locs hq' hz1 hk1 hS => ?_)
        obtain ⟨rfl, τ3, hNτ3, hB⟩ := hq'
        have hNτ3 := Nx.chain hNτ2 (c := 1) hNτ3 rfl
        have hGτ3 := hNτ3.1
        have hOτ3 := hGτ3.O
        have hτ31 : τ3.1 = σ.1 := hNτ3.2.1
        refine lv_if_eq (tgt := 99) hx hb dL_isFit_92 (by decide) (fun c_92 => absurd c_92 (by decide)) (fun c_92 => ?_)
        refine lv_iconst (v := 1) hx hb dL_isFit_95 (by decide) ?_
        refine lv_goto (tgt := 100) hx hb dL_isFit_96 (by decide) ?_
        refine lv_istore_n (lv' := [(1, .int 1), (0, .ref o), (2, .int (nI r))]) hx hb dL_isFit_100 rfl hl (by decide) rfl (fun ls hl => ?_)
        refine lv_iinc (v := nI (r + 1)) (lv' := [(2, .int (nI (r + 1))), (1, .int 1), (0, .ref o)]) hx hb dL_isFit_101 hl (k := 2) rfl (nI_1 r) (by decide) rfl (fun ls hl => ?_)
        refine lv_goto (tgt := 36) hx hb dL_isFit_104 (by decide) ?_
        refine W.widen (k := 188 + 50 * (r + 1)) (n := 24440 + 6500 * (r + 1)) (by omega) (by omega) ?_
        refine ih_36 (r + 1) (by omega) τ3 (hNτ3) _ _ hB hS ls (lv_eqv (lv_sub (l' := [(0, .ref o), (1, .int 1), (2, .int (nI (r + 1)))]) hl [2, 1, 0] rfl) ?_)
        rfl
  refine W.widen (k := 188 + 50 * 0) (n := 24440 + 6500 * 0) (by omega) (by omega) ?_
  exact key_36 (σ.1.2 1) 0 (by omega) τ (hNτ) _ _ hB hS ls (lv_sub hl [2, 1, 0] rfl)
