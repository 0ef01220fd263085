/-- how many acts there are -/
def aN (L : Nat) : Nat := if L < 36 then L else 36
theorem aN_le (L : Nat) : aN L ≤ 36 ∧ aN L ≤ L := by unfold aN; split <;> omega
theorem aN_t {L : Nat} (h : (36 : Int32) ≤ nI L) (hL : L ≤ 260) : (36 : Int32) = nI (aN L) := by
  have h2 : 36 ≤ L := (nI_leI (a := 36) (b := L) (by decide) (by omega)).mp h
  unfold aN
  rw [if_neg (by omega)]
  rfl
theorem aN_f {L : Nat} (h : ¬ (36 : Int32) ≤ nI L) (hL : L ≤ 260) : nI L = nI (aN L) := by
  have h2 : ¬ 36 ≤ L := fun h9 => h ((nI_leI (a := 36) (b := L) (by decide) (by omega)).mpr h9)
  unfold aN
  rw [if_pos (by omega)]

set_option maxHeartbeats 8000000 in
set_option maxRecDepth 100000 in
theorem law_walk {X : Cx} {p : Program} {l : Launch} {e : Env} {s : State} {m : MethodId} {below : List Frame} {meth : Method} {c : Code} {ls : Array Slot} (h0 : Init X) (hF : FX X p s m meth c cL_law 10 (some .boolean) RL) (hXs : X.s = s) {L : Nat} {xs : Nat → Int32} (hX : va_X X.b L xs X.s X.s.heap) (hbz : X.b < X.z) (hL : L ≤ 260) (hl : lv_has ls 10 [(0, .ref X.b)]) {cm qf tq : Nat → Nat} {sm tc tt : Nat} (hC : StC X cm sm) (hW : StW X cm qf tc) (hTT : StT X tq tt) : W p l e room_1 s m #[Value.ref X.b] below meth c s.heap [] 0 0 (lw_Z below #[Value.ref X.b] s) (F0 m 0 ls []) := by
  obtain ⟨hx, hb, hml, hr, hlk, hown, hG⟩ := id hF
  have hK := hG.K h0
  have hS : va_S (gA X) s.heap s.heap [] := va_S.rf
  have hAo : ∀ q, q < X.z → ¬ gA X q := fun q h9 (h8 : X.z ≤ q) => by omega
  have hzz : s.heap.size = X.z := by rw [← hXs]; rfl
  obtain ⟨o, ho⟩ : ∃ o, s.heap.size = o := ⟨_, rfl⟩
  have hAoo : ∀ q, q < X.z → ¬ (fun q => o ≤ q) q := fun q h9 (h8 : o ≤ q) => by omega
  have haN := aN_le L
  refine g_new h0 hF inX9 tyX9 tyX9_ok wk_L_1 wi_X9 wz_X9 hS (ci := 8) rfl [.null, .null, .null, .null, .null, .null, .null, .int 0, .int 0] (by decide) (Nat.le_of_ble_eq_true rfl) (Nat.le_of_ble_eq_true rfl) dL_law_0 ho (fun H hnew hz1 hold hS => ?_)
  refine lv_dup hx hb dL_law_3 rfl ?_
  refine core_m (A1 := fun q => o ≤ q) (grI (Bh := fun H => H.size = o + 1 ∧ Bk X o (o + 1) [(o, .inr (8, [.null, .null, .null, .null, .null, .null, .null, .int 0, .int 0]))] H) (n := 0) (As := []) (rest := [.ref o]) h0 hF (m_X9_init h0 (a := o) (by omega) hC) wm_L_200 wo_X9_init wz_X9 wc_X9_init rfl ⟨by decide, by decide, by decide +kernel⟩ rfl ⟨Nat.le_of_ble_eq_true rfl, Nat.le_of_ble_eq_true rfl⟩ ⟨hz1, hnew⟩ hS hAo ⟨Nat.le_of_ble_eq_true rfl, Nat.le_of_ble_eq_true rfl⟩ hl.1 rfl (Nat.le_of_ble_eq_true rfl) dL_law_4) hS (fun q (h8 : o ≤ q) => (show X.z ≤ q from by omega)) (fun v' H locs hq hz9 hk1 hS => ?_)
  obtain ⟨rfl, -, hsb0⟩ := hq
  obtain ⟨σ, hGσ, hB⟩ : ∃ σ, GI 0 σ ∧ SBH X cm o σ H := ⟨sb0, GI_0, hsb0.sbh (by omega)⟩
  have hOσ := hGσ.O
  have hPσ := hGσ.P
  refine lv_astore_n (lv' := [(1, .ref o), (0, .ref X.b)]) hx hb dL_law_7 rfl hl (by decide) rfl (fun ls hl => ?_)
  refine lv_iconst (v := 0) hx hb dL_law_8 (by decide) ?_
  refine lv_istore_n (lv' := [(2, .int 0), (1, .ref o), (0, .ref X.b)]) hx hb dL_law_9 rfl hl (by decide) rfl (fun ls hl => ?_)
  have key_10 : ∀ (nf i1 : Nat), i1 + nf = 5 → ∀ (ρ : Sb), (GI i1 ρ) → ∀ (H : Heap) (locs : List Loc), SBH X cm o ρ H → va_S (gA X) s.heap H locs → ∀ (ls : Array Slot), lv_has ls 10 [(0, .ref X.b), (1, .ref o), (2, .int (nI i1))] → W p l e room_1 s m #[Value.ref X.b] below meth c H locs (0 + 1 + 262) (0 + 9 + 1690) (lw_Z below #[Value.ref X.b] s) (F0 m 10 ls []) := by
    intro nf
    induction nf with
    | zero =>
      intro i1 hi1 ρ hx_i1 H locs hB hS ls hl
      have hi1_e : i1 = 5 := by omega
      subst hi1_e
      have hGρ := hx_i1
      have hOρ := hGρ.O
      have hPρ := hGρ.P
      refine lv_iload_n hx hb dL_law_10 rfl (lv_at hl 2 rfl) ?_
      refine lv_iconst (v := 5) hx hb dL_law_11 (by decide) ?_
      refine lv_icmp_ge (tgt := 32) hx hb dL_law_12 (by decide) (fun c_12 => ?_) (fun c_12 => absurd (nI_le (a := 5) (b := 5) (by omega) (by omega)) c_12)
      have n_12 := Int32.not_lt.mpr c_12
      refine lv_iconst (v := 0) hx hb dL_law_32 (by decide) ?_
      refine lv_istore_n (lv' := [(2, .int 0), (0, .ref X.b), (1, .ref o)]) hx hb dL_law_33 rfl hl (by decide) rfl (fun ls hl => ?_)
      have key_34 : ∀ (nf i2 : Nat), i2 + nf = 3 → ∀ (π : Sb), (GI (5 + 5 * i2) π) → ∀ (H : Heap) (locs : List Loc), SBH X cm o π H → va_S (gA X) s.heap H locs → ∀ (ls : Array Slot), lv_has ls 10 [(0, .ref X.b), (1, .ref o), (2, .int (nI i2))] → W p l e room_1 s m #[Value.ref X.b] below meth c H locs (0 + 1 + 262) (0 + 9 + 1690) (lw_Z below #[Value.ref X.b] s) (F0 m 34 ls []) := by
        intro nf
        induction nf with
        | zero =>
          intro i2 hi2 π hx_i2 H locs hB hS ls hl
          have hi2_e : i2 = 3 := by omega
          subst hi2_e
          have hGπ := hx_i2
          have hOπ := hGπ.O
          have hPπ := hGπ.P
          refine lv_iload_n hx hb dL_law_34 rfl (lv_at hl 2 rfl) ?_
          refine lv_iconst (v := 3) hx hb dL_law_35 (by decide) ?_
          refine lv_icmp_ge (tgt := 91) hx hb dL_law_36 (by decide) (fun c_36 => ?_) (fun c_36 => absurd (nI_le (a := 3) (b := 3) (by omega) (by omega)) c_36)
          have n_36 := Int32.not_lt.mpr c_36
          refine lv_aload_n hx hb dL_law_91 rfl (lv_at hl 1 rfl) ?_
          refine lv_iconst (v := 2) hx hb dL_law_92 (by decide) ?_
          refine lv_iconst (v := 0) hx hb dL_law_93 (by decide) ?_
          refine core_m (A1 := gA X) (grV (Bh := (SBH X cm o π)) (n := 2) (As := [.int 2, .int 0]) (rest := []) h0 hF (m_X9_claim h0 (cm := cm) (o := o) (σ := π) hC hOπ hPπ 2 0) wm_L_38 wo_X9_claim ws_X9__X9_claim wz_X9 wc_X9_claim ⟨by decide, by decide, by decide +kernel⟩ rfl ⟨Nat.le_of_ble_eq_true rfl, Nat.le_of_ble_eq_true rfl⟩ (ci := 8) (SBH.rec hB) rfl hB hS hAo ⟨Nat.le_of_ble_eq_true rfl, Nat.le_of_ble_eq_true rfl⟩ hl.1 rfl (Nat.le_of_ble_eq_true rfl) dL_law_94) hS (fun q h8 => h8) (fun v' H locs hq' hz1 hk1 hS => ?_)
          obtain ⟨rfl, hB⟩ := hq'
          obtain ⟨α, hα, hB⟩ : ∃ α, α = sbChg π (oCmd π.1 π.2.2.2.2.1 4 2 0 0) ∧ SBH X cm o α H := ⟨_, rfl, hB⟩
          have hGα : GI (21) α := by rw [hα]; exact hGπ.chg (by omega) 4 _ _ _
          have hOα := hGα.O
          have hPα := hGα.P
          have hsα : α.2.1 = π.2.1 ∧ α.2.2.2.1 2 = π.2.2.2.1 2 := by rw [hα]; exact chg_1.2
          refine lv_pop hx hb dL_law_97 rfl ?_
          have hJ_98 : ∀ v9 : Int32, v9 = nI (aN L) → W p l e room_1 s m #[Value.ref X.b] below meth c H locs (0 + 1 + 262) (0 + 9 + 1690) (lw_Z below #[Value.ref X.b] s) (F0 m 112 ls (.int v9 :: [])) := by
            intro v9 hv9
            subst hv9
            refine lv_istore_n (lv' := [(2, .int (nI (aN L))), (0, .ref X.b), (1, .ref o)]) hx hb dL_law_112 rfl hl (by decide) rfl (fun ls hl => ?_)
            refine lv_iconst (v := 0) hx hb dL_law_113 (by decide) ?_
            refine lv_istore_n (lv' := [(3, .int 0), (2, .int (nI (aN L))), (0, .ref X.b), (1, .ref o)]) hx hb dL_law_114 rfl hl (by decide) rfl (fun ls hl => ?_)
            have key_115 : ∀ (nf i3 : Nat), i3 + nf = (aN L) → ∀ (β : Sb), (GI (21 + 4 * i3) β) → ∀ (H : Heap) (locs : List Loc), SBH X cm o β H → va_S (gA X) s.heap H locs → ∀ (ls : Array Slot), lv_has ls 10 [(0, .ref X.b), (1, .ref o), (2, .int (nI (aN L))), (3, .int (nI i3))] → W p l e room_1 s m #[Value.ref X.b] below meth c H locs (2000 + 61 * i3) (3000 + 7930 * i3) (lw_Z below #[Value.ref X.b] s) (F0 m 115 ls []) := by
              intro nf
              induction nf with
              | zero =>
                intro i3 hi3 β hx_i3 H locs hB hS ls hl
                have hi3_e : i3 = (aN L) := by omega
                subst hi3_e
                have hGβ := hx_i3.mono (N := 165) (by omega) (by omega)
                have hOβ := hGβ.O
                have hPβ := hGβ.P
                refine lv_iload_n hx hb dL_law_115 rfl (lv_at hl 3 rfl) ?_
                refine lv_iload_n hx hb dL_law_116 rfl (lv_at hl 2 rfl) ?_
                refine lv_icmp_ge (tgt := 175) hx hb dL_law_117 (by decide) (fun c_117 => ?_) (fun c_117 => absurd (nI_le (a := (aN L)) (b := (aN L)) (by omega) (by omega)) c_117)
                have n_117 := Int32.not_lt.mpr c_117
                refine lv_aload_n hx hb dL_law_175 rfl (lv_at hl 1 rfl) ?_
                refine core_m (A1 := gA X) (grS (Bh := (SBH X cm o β)) (n := 1) (As := [.ref o]) (rest := []) h0 hF (m_L_isFit h0 (cm := cm) (o := o) (σ := β) hC hGβ (by omega)) wm_L_209 wt_L_isFit wz_L wc_L_isFit ⟨by decide, by decide, by decide +kernel⟩ rfl ⟨Nat.le_of_ble_eq_true rfl, Nat.le_of_ble_eq_true rfl⟩ hB hS hAo ⟨by show 2000 + 61 * (aN L) + 438 ≤ 640286; omega, by show 3000 + 7930 * (aN L) + 56940 ≤ 7181391; omega⟩ hl.1 rfl (Nat.le_of_ble_eq_true rfl) dL_law_176) hS (fun q h8 => h8) (fun v' H locs hq' hz1 hk1 hS => ?_)
                obtain ⟨rfl, δ, hNδ, hB⟩ := hq'
                have hGδ : GI 186 δ := hNδ.1
                have hOδ := hGδ.O
                have hPδ := hGδ.P
                have h3δ := hGδ.2.2.2.2.2.1
                refine lv_istore_n (lv' := [(3, .int 1), (0, .ref X.b), (1, .ref o), (2, .int (nI (aN L)))]) hx hb dL_law_179 rfl hl (by decide) rfl (fun ls hl => ?_)
                refine lv_aload_n hx hb dL_law_180 rfl (lv_at hl 2 rfl) ?_
                refine core_m (A1 := gA X) (grV (Bh := (SBH X cm o δ)) (n := 0) (As := []) (rest := []) h0 hF (m_X9_read_bad h0 (cm := cm) (o := o) (σ := δ) hW (t := []) cc_nil (by decide) h3δ (fun j hj => absurd hj (by rw [h3δ]; exact Nat.not_lt_zero j))) wm_L_73 wo_X9_read ws_X9__X9_read wz_X9 wc_X9_read ⟨by decide, by decide, by decide +kernel⟩ rfl ⟨Nat.le_of_ble_eq_true rfl, Nat.le_of_ble_eq_true rfl⟩ (ci := 8) (SBH.rec hB) rfl hB hS hAo ⟨by show 2000 + 61 * (aN L) + 438 + 1 ≤ 640286; omega, by show 3000 + 7930 * (aN L) + 56940 + 130 ≤ 7181391; omega⟩ hl.1 rfl (Nat.le_of_ble_eq_true rfl) dL_law_181) hS (fun q h8 => h8) (fun v' H locs hq' hz1 hk1 hS => ?_)
                obtain ⟨rfl, e9, hB⟩ := hq'
                obtain ⟨ε, hε, hB⟩ : ∃ ε, ε = sbIn (sbF δ e9) 0 δ.2.2.2.2.2 ∧ SBH X cm o ε H := ⟨_, rfl, hB⟩
                have hGε : GI 186 ε := by rw [hε]; exact hGδ.in0 _ _
                have hOε := hGε.O
                have hPε := hGε.P
                refine lv_pop hx hb dL_law_184 rfl ?_
                refine lv_aload_n hx hb dL_law_185 rfl (lv_at hl 2 rfl) ?_
                refine core_p (v := .long (digV ε.1)) (grS (n := 1) (As := [.ref o]) (rest := []) h0 hF (m_L_digest h0 (cm := cm) (o := o) (σ := ε) hOε ) wm_L_151 wt_L_digest wz_L wc_L_digest ⟨by decide, by decide, by decide +kernel⟩ rfl ⟨Nat.le_of_ble_eq_true rfl, Nat.le_of_ble_eq_true rfl⟩ hB hS hAo ⟨by show 2000 + 61 * (aN L) + 438 + 1 + 0 ≤ 640286; omega, by show 3000 + 7930 * (aN L) + 56940 + 130 + 0 ≤ 7181391; omega⟩ hl.1 rfl (Nat.le_of_ble_eq_true rfl) dL_law_186) ?_
                refine lv_lstore (lv' := [(4, .long (digV ε.1)), (3, .int 1), (0, .ref X.b), (1, .ref o), (2, .int (nI (aN L)))]) hx hb dL_law_189 hl (by decide) rfl (fun ls hl => ?_)
                refine lv_aload_n hx hb dL_law_191 rfl (lv_at hl 3 rfl) ?_
                refine core_m (A1 := gA X) (grV (Bh := (SBH X cm o ε)) (n := 0) (As := []) (rest := []) h0 hF (m_X9_save h0 (cm := cm) (o := o) (σ := ε)) wm_L_76 wo_X9_save ws_X9__X9_save wz_X9 wc_X9_save ⟨by decide, by decide, by decide +kernel⟩ rfl ⟨Nat.le_of_ble_eq_true rfl, Nat.le_of_ble_eq_true rfl⟩ (ci := 8) (SBH.rec hB) rfl hB hS hAo ⟨by show 2000 + 61 * (aN L) + 438 + 1 + 0 ≤ 640286; omega, by show 3000 + 7930 * (aN L) + 56940 + 130 + 0 ≤ 7181391; omega⟩ hl.1 rfl (Nat.le_of_ble_eq_true rfl) dL_law_192) hS (fun q h8 => h8) (fun v' H locs hq' hz1 hk1 hS => ?_)
                obtain ⟨rfl, hB⟩ := hq'
                obtain ⟨ζ, hζ, hB⟩ : ∃ ζ, ζ = sbSave ε ∧ SBH X cm o ζ H := ⟨_, rfl, hB⟩
                have hGζ : GI 186 ζ := by rw [hζ]; exact hGε.save
                have hOζ := hGζ.O
                have hPζ := hGζ.P
                have hζs : ζ.1 = ε.1 ∧ ζ.2.1 = ε.1 ∧ ζ.2.2.2.1 2 = 1 := by rw [hζ]; exact ⟨rfl, rfl, rfl⟩
                refine lv_istore (lv' := [(6, .int (nI (ε.1.2 0))), (4, .long (digV ε.1)), (3, .int 1), (0, .ref X.b), (1, .ref o), (2, .int (nI (aN L)))]) hx hb dL_law_195 hl (by decide) rfl (fun ls hl => ?_)
                refine lv_iconst (v := 0) hx hb dL_law_197 (by decide) ?_
                refine lv_istore (lv' := [(7, .int 0), (6, .int (nI (ε.1.2 0))), (4, .long (digV ε.1)), (3, .int 1), (0, .ref X.b), (1, .ref o), (2, .int (nI (aN L)))]) hx hb dL_law_198 hl (by decide) rfl (fun ls hl => ?_)
                have key_200 : ∀ (nf i4 : Nat), i4 + nf = 30 → ∀ (η : Sb), (GI (186 + 4 * i4) η ∧ η.1 = ε.1 ∧ η.2.1 = ε.1 ∧ η.2.2.2.1 2 = 1) → ∀ (H : Heap) (locs : List Loc), SBH X cm o η H → va_S (gA X) s.heap H locs → ∀ (ls : Array Slot), lv_has ls 10 [(0, .ref X.b), (1, .ref o), (2, .int (nI (aN L))), (3, .int 1), (4, .long (digV ε.1)), (6, .int (nI (ε.1.2 0))), (7, .int (nI i4))] → W p l e room_1 s m #[Value.ref X.b] below meth c H locs (5000 + 155 * i4) (400000 + 20150 * i4) (lw_Z below #[Value.ref X.b] s) (F0 m 200 ls []) := by
                  intro nf
                  induction nf with
                  | zero =>
                    intro i4 hi4 η hx_i4 H locs hB hS ls hl
                    have hi4_e : i4 = 30 := by omega
                    subst hi4_e
                    have hηs := hx_i4.2
                    have hGη := hx_i4.1
                    have hOη := hGη.O
                    have hPη := hGη.P
                    refine lv_iload_n hx hb dL_law_200 rfl (lv_at hl 3 rfl) ?_
                    refine lv_if_eq (tgt := 343) hx hb dL_law_201 (by decide) (fun c_201 => absurd c_201 (by decide)) (fun c_201 => ?_)
                    refine lv_iload hx hb dL_law_204 (lv_at hl 6 rfl) ?_
                    refine va_gets hx hb (hG.Z hAo hTT.1) hS hown (hG.hts h0 _ _ wf_L_63) (fun _ h9 => h9) dL_law_206 ?_
                    refine va_tlen hx hb (hG.T hAo hTT.2.1) hS (v := 30) rfl dL_law_209 ?_
                    refine lv_icmp_ge (tgt := 343) hx hb dL_law_210 (by decide) (fun c_210 => ?_) (fun c_210 => absurd (nI_le (a := 30) (b := 30) (by omega) (by omega)) c_210)
                    have n_210 := Int32.not_lt.mpr c_210
                    refine lv_iconst (v := 0) hx hb dL_law_343 (by decide) ?_
                    refine lv_istore (lv' := [(7, .int 0), (0, .ref X.b), (1, .ref o), (2, .int (nI (aN L))), (3, .int 1), (4, .long (digV ε.1)), (6, .int (nI (ε.1.2 0)))]) hx hb dL_law_344 hl (by decide) rfl (fun ls hl => ?_)
                    have key_346 : ∀ (nf i5 : Nat), i5 + nf = 3 → ∀ (μ : Sb), (GI (306 + 28 * i5) μ ∧ μ.2.1 = ε.1 ∧ μ.2.2.2.1 2 = 1) → ∀ (H : Heap) (locs : List Loc), SBH X cm o μ H → va_S (gA X) s.heap H locs → ∀ (ls : Array Slot), lv_has ls 10 [(0, .ref X.b), (1, .ref o), (2, .int (nI (aN L))), (3, .int 1), (4, .long (digV ε.1)), (6, .int (nI (ε.1.2 0))), (7, .int (nI i5))] → W p l e room_1 s m #[Value.ref X.b] below meth c H locs (10000 + 438 * i5) (1100000 + 56940 * i5) (lw_Z below #[Value.ref X.b] s) (F0 m 346 ls []) := by
                      intro nf
                      induction nf with
                      | zero =>
                        intro i5 hi5 μ hx_i5 H locs hB hS ls hl
                        have hi5_e : i5 = 3 := by omega
                        subst hi5_e
                        have hμs := hx_i5.2
                        have hGμ := hx_i5.1
                        have hOμ := hGμ.O
                        have hPμ := hGμ.P
                        refine lv_iload_n hx hb dL_law_346 rfl (lv_at hl 3 rfl) ?_
                        refine lv_if_eq (tgt := 429) hx hb dL_law_347 (by decide) (fun c_347 => absurd c_347 (by decide)) (fun c_347 => ?_)
                        refine lv_iload hx hb dL_law_350 (lv_at hl 6 rfl) ?_
                        refine lv_iconst (v := 3) hx hb dL_law_352 (by decide) ?_
                        refine lv_icmp_ge (tgt := 429) hx hb dL_law_353 (by decide) (fun c_353 => ?_) (fun c_353 => absurd (nI_le (a := 3) (b := 3) (by omega) (by omega)) c_353)
                        have n_353 := Int32.not_lt.mpr c_353
                        refine lv_iload_n hx hb dL_law_429 rfl (lv_at hl 3 rfl) ?_
                        refine lv_if_eq (tgt := 465) hx hb dL_law_430 (by decide) (fun c_430 => absurd c_430 (by decide)) (fun c_430 => ?_)
                        have hcq := hμs.2
                        refine lv_aload_n hx hb dL_law_433 rfl (lv_at hl 1 rfl) ?_
                        refine core_m (A1 := gA X) (grV (Bh := (SBH X cm o μ)) (n := 0) (As := []) (rest := []) h0 hF (m_X9_restore h0 (cm := cm) (o := o) (σ := μ) hPμ hcq) wm_L_79 wo_X9_restore ws_X9__X9_restore wz_X9 wc_X9_restore ⟨by decide, by decide, by decide +kernel⟩ rfl ⟨Nat.le_of_ble_eq_true rfl, Nat.le_of_ble_eq_true rfl⟩ (ci := 8) (SBH.rec hB) rfl hB hS hAo ⟨Nat.le_of_ble_eq_true rfl, Nat.le_of_ble_eq_true rfl⟩ hl.1 rfl (Nat.le_of_ble_eq_true rfl) dL_law_434) hS (fun q h8 => h8) (fun v' H locs hq' hz1 hk1 hS => ?_)
                        obtain ⟨rfl, hB⟩ := hq'
                        obtain ⟨ν, hν, hB⟩ : ∃ ν, ν = sbRest μ ∧ SBH X cm o ν H := ⟨_, rfl, hB⟩
                        have hGν : GI 390 ν := by rw [hν]; exact (hGμ.mono (by omega) (by omega)).rest
                        have hOν := hGν.O
                        have hν1 : ν.1 = ε.1 := by rw [hν]; exact hμs.1
                        have hν0 : ν.2.2.2.1 0 = 0 := by rw [hν]; rfl
                        refine lv_iload hx hb dL_law_437 (lv_at hl 5 rfl) ?_
                        refine lv_icmp_ne (tgt := 465) hx hb dL_law_439 (by decide) (fun c_439 => absurd (by rw [hμs.1]) c_439) (fun c_439 => ?_)
                        refine lv_aload_n hx hb dL_law_442 rfl (lv_at hl 1 rfl) ?_
                        refine core_p (v := .long (digV ν.1)) (grS (n := 1) (As := [.ref o]) (rest := []) h0 hF (m_L_digest h0 (cm := cm) (o := o) (σ := ν) hOν ) wm_L_151 wt_L_digest wz_L wc_L_digest ⟨by decide, by decide, by decide +kernel⟩ rfl ⟨Nat.le_of_ble_eq_true rfl, Nat.le_of_ble_eq_true rfl⟩ hB hS hAo ⟨Nat.le_of_ble_eq_true rfl, Nat.le_of_ble_eq_true rfl⟩ hl.1 rfl (Nat.le_of_ble_eq_true rfl) dL_law_443) ?_
                        refine lv_lload hx hb dL_law_446 (lv_at hl 4 rfl) ?_
                        refine W.lcmp hx hb dL_law_448 ?_
                        refine lv_topE (y := 0) (by rw [hν1]; exact lg_cmp_self _) ?_
                        refine lv_if_ne (tgt := 465) hx hb dL_law_449 (by decide) (fun c_449 => absurd c_449 (by decide)) (fun c_449 => ?_)
                        have hcq := hν0
                        refine lv_aload_n hx hb dL_law_452 rfl (lv_at hl 1 rfl) ?_
                        refine core_p (v := .int (-4)) (grV (n := 0) (As := []) (rest := []) h0 hF (m_X9_undo_0 h0 (cm := cm) (o := o) (σ := ν) hcq) wm_L_82 wo_X9_undo ws_X9__X9_undo wz_X9 wc_X9_undo ⟨by decide, by decide, by decide +kernel⟩ rfl ⟨Nat.le_of_ble_eq_true rfl, Nat.le_of_ble_eq_true rfl⟩ (ci := 8) (SBH.rec hB) rfl hB hS hAo ⟨Nat.le_of_ble_eq_true rfl, Nat.le_of_ble_eq_true rfl⟩ hl.1 rfl (Nat.le_of_ble_eq_true rfl) dL_law_453) ?_
                        refine lv_bipush (v := (-4)) hx hb dL_law_456 (by decide) ?_
                        refine lv_icmp_ne (tgt := 465) hx hb dL_law_458 (by decide) (fun c_458 => absurd c_458 (by decide)) (fun c_458 => ?_)
                        refine lv_iconst (v := 1) hx hb dL_law_461 (by decide) ?_
                        refine lv_goto (tgt := 466) hx hb dL_law_462 (by decide) ?_
                        refine va_forget (fun q hq => by have h9 : X.z ≤ q.base := hS.2.2 q hq; omega) ?_
                        refine W.widen (k := 640286) (n := 7181391) (by omega) (by omega) ?_
                        refine W.base ?_
                        exact lw_ret (Drawn.sameBut.refl s.drawn lw_cs) hx hb hr hlk dL_law_466
                      | succ nf ih_346 =>
                        intro i5 hi5 μ hx_i5 H locs hB hS ls hl
                        have hi5_l : i5 < 3 := by omega
                        have hμs := hx_i5.2
                        have hGμ := hx_i5.1
                        have hOμ := hGμ.O
                        have hPμ := hGμ.P
                        refine lv_iload_n hx hb dL_law_346 rfl (lv_at hl 3 rfl) ?_
                        refine lv_if_eq (tgt := 429) hx hb dL_law_347 (by decide) (fun c_347 => absurd c_347 (by decide)) (fun c_347 => ?_)
                        refine lv_iload hx hb dL_law_350 (lv_at hl 6 rfl) ?_
                        refine lv_iconst (v := 3) hx hb dL_law_352 (by decide) ?_
                        refine lv_icmp_ge (tgt := 429) hx hb dL_law_353 (by decide) (fun c_353 => absurd c_353 (nI_ge (a := i5) (b := 3) (by omega) (by omega))) (fun c_353 => ?_)
                        have n_353 := Int32.not_le.mp c_353
                        refine lv_aload_n hx hb dL_law_356 rfl (lv_at hl 1 rfl) ?_
                        refine core_m (A1 := gA X) (grV (Bh := (SBH X cm o μ)) (n := 0) (As := []) (rest := []) h0 hF (m_X9_dawn h0 (cm := cm) (o := o) (σ := μ) hC hOμ hPμ ) wm_L_60 wo_X9_dawn ws_X9__X9_dawn wz_X9 wc_X9_dawn ⟨by decide, by decide, by decide +kernel⟩ rfl ⟨Nat.le_of_ble_eq_true rfl, Nat.le_of_ble_eq_true rfl⟩ (ci := 8) (SBH.rec hB) rfl hB hS hAo ⟨by show 10000 + 438 * i5 + 0 ≤ 640286; omega, by show 1100000 + 56940 * i5 + 0 ≤ 7181391; omega⟩ hl.1 rfl (Nat.le_of_ble_eq_true rfl) dL_law_357) hS (fun q h8 => h8) (fun v' H locs hq' hz1 hk1 hS => ?_)
                        obtain ⟨rfl, hB⟩ := hq'
                        obtain ⟨μ1, hμ1, hB⟩ : ∃ μ1, μ1 = sbChg μ (oCmd μ.1 μ.2.2.2.2.1 11 0 0 0) ∧ SBH X cm o μ1 H := ⟨_, rfl, hB⟩
                        have hGμ1 : GI (306 + 28 * i5 + 1) μ1 := by rw [hμ1]; exact hGμ.chg (by omega) 11 _ _ _
                        have hOμ1 := hGμ1.O
                        have hPμ1 := hGμ1.P
                        have hsμ1 : μ1.2.1 = μ.2.1 ∧ μ1.2.2.2.1 2 = μ.2.2.2.1 2 := by rw [hμ1]; exact chg_1.2
                        refine lv_pop hx hb dL_law_360 rfl ?_
                        refine lv_aload_n hx hb dL_law_361 rfl (lv_at hl 1 rfl) ?_
                        refine lv_iconst (v := 0) hx hb dL_law_362 (by decide) ?_
                        refine lv_iload hx hb dL_law_363 (lv_at hl 6 rfl) ?_
                        refine lv_iconst (v := 2) hx hb dL_law_365 (by decide) ?_
                        refine lv_iadd hx hb dL_law_366 ?_
                        refine core_m (A1 := gA X) (grV (Bh := (SBH X cm o μ1)) (n := 2) (As := [.int 0, .int ((nI i5) + 2)]) (rest := []) h0 hF (m_X9_sight h0 (cm := cm) (o := o) (σ := μ1) hC hOμ1 hPμ1 0 ((nI i5) + 2)) wm_L_35 wo_X9_sight ws_X9__X9_sight wz_X9 wc_X9_sight ⟨by decide, by decide, by decide +kernel⟩ rfl ⟨Nat.le_of_ble_eq_true rfl, Nat.le_of_ble_eq_true rfl⟩ (ci := 8) (SBH.rec hB) rfl hB hS hAo ⟨by show 10000 + 438 * i5 + 0 ≤ 640286; omega, by show 1100000 + 56940 * i5 + 0 ≤ 7181391; omega⟩ hl.1 rfl (Nat.le_of_ble_eq_true rfl) dL_law_367) hS (fun q h8 => h8) (fun v' H locs hq' hz1 hk1 hS => ?_)
                        obtain ⟨rfl, hB⟩ := hq'
                        obtain ⟨μ2, hμ2, hB⟩ : ∃ μ2, μ2 = sbChg μ1 (oCmd μ1.1 μ1.2.2.2.2.1 3 0 ((nI i5) + 2) 0) ∧ SBH X cm o μ2 H := ⟨_, rfl, hB⟩
                        have hGμ2 : GI (306 + 28 * i5 + 2) μ2 := by rw [hμ2]; exact hGμ1.chg (by omega) 3 _ _ _
                        have hOμ2 := hGμ2.O
                        have hPμ2 := hGμ2.P
                        have hsμ2 : μ2.2.1 = μ1.2.1 ∧ μ2.2.2.2.1 2 = μ1.2.2.2.1 2 := by rw [hμ2]; exact chg_1.2
                        refine lv_pop hx hb dL_law_370 rfl ?_
                        refine lv_aload_n hx hb dL_law_371 rfl (lv_at hl 1 rfl) ?_
                        refine lv_iconst (v := 0) hx hb dL_law_372 (by decide) ?_
                        refine lv_iload hx hb dL_law_373 (lv_at hl 6 rfl) ?_
                        refine lv_iconst (v := 2) hx hb dL_law_375 (by decide) ?_
                        refine lv_iadd hx hb dL_law_376 ?_
                        refine lv_iload hx hb dL_law_377 (lv_at hl 6 rfl) ?_
                        refine core_m (A1 := gA X) (grV (Bh := (SBH X cm o μ2)) (n := 3) (As := [.int 0, .int ((nI i5) + 2), .int (nI i5)]) (rest := []) h0 hF (m_X9_wish h0 (cm := cm) (o := o) (σ := μ2) hC hOμ2 hPμ2 0 ((nI i5) + 2) (nI i5)) wm_L_47 wo_X9_wish ws_X9__X9_wish wz_X9 wc_X9_wish ⟨by decide, by decide, by decide +kernel⟩ rfl ⟨Nat.le_of_ble_eq_true rfl, Nat.le_of_ble_eq_true rfl⟩ (ci := 8) (SBH.rec hB) rfl hB hS hAo ⟨by show 10000 + 438 * i5 + 0 ≤ 640286; omega, by show 1100000 + 56940 * i5 + 0 ≤ 7181391; omega⟩ hl.1 rfl (Nat.le_of_ble_eq_true rfl) dL_law_379) hS (fun q h8 => h8) (fun v' H locs hq' hz1 hk1 hS => ?_)
                        obtain ⟨rfl, hB⟩ := hq'
                        obtain ⟨μ3, hμ3, hB⟩ : ∃ μ3, μ3 = sbChg μ2 (oCmd μ2.1 μ2.2.2.2.2.1 6 0 ((nI i5) + 2) (nI i5)) ∧ SBH X cm o μ3 H := ⟨_, rfl, hB⟩
                        have hGμ3 : GI (306 + 28 * i5 + 3) μ3 := by rw [hμ3]; exact hGμ2.chg (by omega) 6 _ _ _
                        have hOμ3 := hGμ3.O
                        have hPμ3 := hGμ3.P
                        have hsμ3 : μ3.2.1 = μ2.2.1 ∧ μ3.2.2.2.1 2 = μ2.2.2.2.1 2 := by rw [hμ3]; exact chg_1.2
                        refine lv_pop hx hb dL_law_382 rfl ?_
                        refine lv_aload_n hx hb dL_law_383 rfl (lv_at hl 1 rfl) ?_
                        refine lv_iconst (v := 0) hx hb dL_law_384 (by decide) ?_
                        refine lv_iconst (v := 0) hx hb dL_law_385 (by decide) ?_
                        refine core_m (A1 := gA X) (grV (Bh := (SBH X cm o μ3)) (n := 2) (As := [.int 0, .int 0]) (rest := []) h0 hF (m_X9_sight h0 (cm := cm) (o := o) (σ := μ3) hC hOμ3 hPμ3 0 0) wm_L_35 wo_X9_sight ws_X9__X9_sight wz_X9 wc_X9_sight ⟨by decide, by decide, by decide +kernel⟩ rfl ⟨Nat.le_of_ble_eq_true rfl, Nat.le_of_ble_eq_true rfl⟩ (ci := 8) (SBH.rec hB) rfl hB hS hAo ⟨by show 10000 + 438 * i5 + 0 ≤ 640286; omega, by show 1100000 + 56940 * i5 + 0 ≤ 7181391; omega⟩ hl.1 rfl (Nat.le_of_ble_eq_true rfl) dL_law_386) hS (fun q h8 => h8) (fun v' H locs hq' hz1 hk1 hS => ?_)
                        obtain ⟨rfl, hB⟩ := hq'
                        obtain ⟨μ4, hμ4, hB⟩ : ∃ μ4, μ4 = sbChg μ3 (oCmd μ3.1 μ3.2.2.2.2.1 3 0 0 0) ∧ SBH X cm o μ4 H := ⟨_, rfl, hB⟩
                        have hGμ4 : GI (306 + 28 * i5 + 4) μ4 := by rw [hμ4]; exact hGμ3.chg (by omega) 3 _ _ _
                        have hOμ4 := hGμ4.O
                        have hPμ4 := hGμ4.P
                        have hsμ4 : μ4.2.1 = μ3.2.1 ∧ μ4.2.2.2.1 2 = μ3.2.2.2.1 2 := by rw [hμ4]; exact chg_1.2
                        refine lv_pop hx hb dL_law_389 rfl ?_
                        refine lv_aload_n hx hb dL_law_390 rfl (lv_at hl 1 rfl) ?_
                        refine lv_iload hx hb dL_law_391 (lv_at hl 6 rfl) ?_
                        refine core_m (A1 := gA X) (grV (Bh := (SBH X cm o μ4)) (n := 1) (As := [.int (nI i5)]) (rest := []) h0 hF (m_X9_pound h0 (cm := cm) (o := o) (σ := μ4) hC hOμ4 hPμ4 (nI i5)) wm_L_54 wo_X9_pound ws_X9__X9_pound wz_X9 wc_X9_pound ⟨by decide, by decide, by decide +kernel⟩ rfl ⟨Nat.le_of_ble_eq_true rfl, Nat.le_of_ble_eq_true rfl⟩ (ci := 8) (SBH.rec hB) rfl hB hS hAo ⟨by show 10000 + 438 * i5 + 0 ≤ 640286; omega, by show 1100000 + 56940 * i5 + 0 ≤ 7181391; omega⟩ hl.1 rfl (Nat.le_of_ble_eq_true rfl) dL_law_393) hS (fun q h8 => h8) (fun v' H locs hq' hz1 hk1 hS => ?_)
                        obtain ⟨rfl, hB⟩ := hq'
                        obtain ⟨μ5, hμ5, hB⟩ : ∃ μ5, μ5 = sbChg μ4 (oCmd μ4.1 μ4.2.2.2.2.1 8 (nI i5) 0 0) ∧ SBH X cm o μ5 H := ⟨_, rfl, hB⟩
                        have hGμ5 : GI (306 + 28 * i5 + 5) μ5 := by rw [hμ5]; exact hGμ4.chg (by omega) 8 _ _ _
                        have hOμ5 := hGμ5.O
                        have hPμ5 := hGμ5.P
                        have hsμ5 : μ5.2.1 = μ4.2.1 ∧ μ5.2.2.2.1 2 = μ4.2.2.2.1 2 := by rw [hμ5]; exact chg_1.2
                        refine lv_pop hx hb dL_law_396 rfl ?_
                        refine lv_aload_n hx hb dL_law_397 rfl (lv_at hl 1 rfl) ?_
                        refine lv_iload hx hb dL_law_398 (lv_at hl 6 rfl) ?_
                        refine lv_iconst (v := 2) hx hb dL_law_400 (by decide) ?_
                        refine lv_iload hx hb dL_law_401 (lv_at hl 6 rfl) ?_
                        refine lv_iadd hx hb dL_law_403 ?_
                        refine core_m (A1 := gA X) (grV (Bh := (SBH X cm o μ5)) (n := 2) (As := [.int (nI i5), .int (2 + (nI i5))]) (rest := []) h0 hF (m_X9_cloud h0 (cm := cm) (o := o) (σ := μ5) hC hOμ5 hPμ5 (nI i5) (2 + (nI i5))) wm_L_32 wo_X9_cloud ws_X9__X9_cloud wz_X9 wc_X9_cloud ⟨by decide, by decide, by decide +kernel⟩ rfl ⟨Nat.le_of_ble_eq_true rfl, Nat.le_of_ble_eq_true rfl⟩ (ci := 8) (SBH.rec hB) rfl hB hS hAo ⟨by show 10000 + 438 * i5 + 0 ≤ 640286; omega, by show 1100000 + 56940 * i5 + 0 ≤ 7181391; omega⟩ hl.1 rfl (Nat.le_of_ble_eq_true rfl) dL_law_404) hS (fun q h8 => h8) (fun v' H locs hq' hz1 hk1 hS => ?_)
                        obtain ⟨rfl, hB⟩ := hq'
                        obtain ⟨μ6, hμ6, hB⟩ : ∃ μ6, μ6 = sbChg μ5 (oCmd μ5.1 μ5.2.2.2.2.1 2 (nI i5) (2 + (nI i5)) 0) ∧ SBH X cm o μ6 H := ⟨_, rfl, hB⟩
                        have hGμ6 : GI (306 + 28 * i5 + 6) μ6 := by rw [hμ6]; exact hGμ5.chg (by omega) 2 _ _ _
                        have hOμ6 := hGμ6.O
                        have hPμ6 := hGμ6.P
                        have hsμ6 : μ6.2.1 = μ5.2.1 ∧ μ6.2.2.2.1 2 = μ5.2.2.2.1 2 := by rw [hμ6]; exact chg_1.2
                        refine lv_pop hx hb dL_law_407 rfl ?_
                        refine lv_aload_n hx hb dL_law_408 rfl (lv_at hl 1 rfl) ?_
                        refine lv_iconst (v := 1) hx hb dL_law_409 (by decide) ?_
                        refine lv_iload hx hb dL_law_410 (lv_at hl 6 rfl) ?_
                        refine lv_iconst (v := 2) hx hb dL_law_412 (by decide) ?_
                        refine lv_iadd hx hb dL_law_413 ?_
                        refine core_m (A1 := gA X) (grV (Bh := (SBH X cm o μ6)) (n := 2) (As := [.int 1, .int ((nI i5) + 2)]) (rest := []) h0 hF (m_X9_claim h0 (cm := cm) (o := o) (σ := μ6) hC hOμ6 hPμ6 1 ((nI i5) + 2)) wm_L_38 wo_X9_claim ws_X9__X9_claim wz_X9 wc_X9_claim ⟨by decide, by decide, by decide +kernel⟩ rfl ⟨Nat.le_of_ble_eq_true rfl, Nat.le_of_ble_eq_true rfl⟩ (ci := 8) (SBH.rec hB) rfl hB hS hAo ⟨by show 10000 + 438 * i5 + 0 ≤ 640286; omega, by show 1100000 + 56940 * i5 + 0 ≤ 7181391; omega⟩ hl.1 rfl (Nat.le_of_ble_eq_true rfl) dL_law_414) hS (fun q h8 => h8) (fun v' H locs hq' hz1 hk1 hS => ?_)
                        obtain ⟨rfl, hB⟩ := hq'
                        obtain ⟨μ7, hμ7, hB⟩ : ∃ μ7, μ7 = sbChg μ6 (oCmd μ6.1 μ6.2.2.2.2.1 4 1 ((nI i5) + 2) 0) ∧ SBH X cm o μ7 H := ⟨_, rfl, hB⟩
                        have hGμ7 : GI (306 + 28 * i5 + 7) μ7 := by rw [hμ7]; exact hGμ6.chg (by omega) 4 _ _ _
                        have hOμ7 := hGμ7.O
                        have hPμ7 := hGμ7.P
                        have hsμ7 : μ7.2.1 = μ6.2.1 ∧ μ7.2.2.2.1 2 = μ6.2.2.2.1 2 := by rw [hμ7]; exact chg_1.2
                        refine lv_pop hx hb dL_law_417 rfl ?_
                        refine lv_aload_n hx hb dL_law_418 rfl (lv_at hl 1 rfl) ?_
                        refine core_m (A1 := gA X) (grS (Bh := (SBH X cm o μ7)) (n := 1) (As := [.ref o]) (rest := []) h0 hF (m_L_isFit h0 (cm := cm) (o := o) (σ := μ7) hC hGμ7 (by omega)) wm_L_209 wt_L_isFit wz_L wc_L_isFit ⟨by decide, by decide, by decide +kernel⟩ rfl ⟨Nat.le_of_ble_eq_true rfl, Nat.le_of_ble_eq_true rfl⟩ hB hS hAo ⟨by show 10000 + 438 * i5 + 438 ≤ 640286; omega, by show 1100000 + 56940 * i5 + 56940 ≤ 7181391; omega⟩ hl.1 rfl (Nat.le_of_ble_eq_true rfl) dL_law_419) hS (fun q h8 => h8) (fun v' H locs hq' hz1 hk1 hS => ?_)
                        obtain ⟨rfl, μ8, hNμ8, hB⟩ := hq'
                        have hGμ8 := hNμ8.1
                        refine lv_istore_n (lv' := [(3, .int 1), (0, .ref X.b), (1, .ref o), (2, .int (nI (aN L))), (4, .long (digV ε.1)), (6, .int (nI (ε.1.2 0))), (7, .int (nI i5))]) hx hb dL_law_422 rfl hl (by decide) rfl (fun ls hl => ?_)
                        refine lv_iinc (v := nI (i5 + 1)) (lv' := [(7, .int (nI (i5 + 1))), (3, .int 1), (0, .ref X.b), (1, .ref o), (2, .int (nI (aN L))), (4, .long (digV ε.1)), (6, .int (nI (ε.1.2 0)))]) hx hb dL_law_423 hl (k := 6) rfl (nI_1 i5) (by decide) rfl (fun ls hl => ?_)
                        refine lv_goto (tgt := 346) hx hb dL_law_426 (by decide) ?_
                        refine W.widen (k := 10000 + 438 * (i5 + 1)) (n := 1100000 + 56940 * (i5 + 1)) (by omega) (by omega) ?_
                        refine ih_346 (i5 + 1) (by omega) μ8 (⟨hGμ8.mono (by omega) (by omega), hNμ8.2.2.1.trans (hsμ7.1.trans (hsμ6.1.trans (hsμ5.1.trans (hsμ4.1.trans (hsμ3.1.trans (hsμ2.1.trans (hsμ1.1.trans hμs.1))))))), hNμ8.2.2.2.trans (hsμ7.2.trans (hsμ6.2.trans (hsμ5.2.trans (hsμ4.2.trans (hsμ3.2.trans (hsμ2.2.trans (hsμ1.2.trans hμs.2)))))))⟩) _ _ hB hS ls (lv_eqv (lv_sub (l' := [(0, .ref X.b), (1, .ref o), (2, .int (nI (aN L))), (3, .int 1), (4, .long (digV ε.1)), (6, .int (nI (ε.1.2 0))), (7, .int (nI (i5 + 1)))]) hl [2, 3, 4, 1, 5, 6, 0] rfl) ?_)
                        rfl
                    refine W.widen (k := 10000 + 438 * 0) (n := 1100000 + 56940 * 0) (by omega) (by omega) ?_
                    exact key_346 (3) 0 (by omega) η (⟨hGη, hηs.2⟩) _ _ hB hS ls (lv_sub hl [1, 2, 3, 4, 5, 6, 0] rfl)
                  | succ nf ih_200 =>
                    intro i4 hi4 η hx_i4 H locs hB hS ls hl
                    have hi4_l : i4 < 30 := by omega
                    have hηs := hx_i4.2
                    have hGη := hx_i4.1
                    have hOη := hGη.O
                    have hPη := hGη.P
                    have h3η := hGη.2.2.2.2.2.1
                    refine lv_iload_n hx hb dL_law_200 rfl (lv_at hl 3 rfl) ?_
                    refine lv_if_eq (tgt := 343) hx hb dL_law_201 (by decide) (fun c_201 => absurd c_201 (by decide)) (fun c_201 => ?_)
                    refine lv_iload hx hb dL_law_204 (lv_at hl 6 rfl) ?_
                    refine va_gets hx hb (hG.Z hAo hTT.1) hS hown (hG.hts h0 _ _ wf_L_63) (fun _ h9 => h9) dL_law_206 ?_
                    refine va_tlen hx hb (hG.T hAo hTT.2.1) hS (v := 30) rfl dL_law_209 ?_
                    refine lv_icmp_ge (tgt := 343) hx hb dL_law_210 (by decide) (fun c_210 => absurd c_210 (nI_ge (a := i4) (b := 30) (by omega) (by omega))) (fun c_210 => ?_)
                    have n_210 := Int32.not_le.mp c_210
                    refine lv_aload_n hx hb dL_law_213 rfl (lv_at hl 1 rfl) ?_
                    refine va_gets hx hb (hG.Z hAo hTT.1) hS hown (hG.hts h0 _ _ wf_L_63) (fun _ h9 => h9) dL_law_214 ?_
                    refine lv_iload hx hb dL_law_217 (lv_at hl 6 rfl) ?_
                    refine vb_tq hx hb (hG.T hAo hTT.2.1) hS (i := nI i4) (vp_in_nI hi4_l (by decide)) (v := .ref (tq i4)) (by rw [nI_clamp (by have := hi4_l; omega)]) dL_law_219 ?_
                    refine core_m (A1 := gA X) (grS (Bh := (SBH X cm o η)) (n := 2) (As := [.ref o, .ref (tq i4)]) (rest := []) h0 hF (m_L_write h0 (cm := cm) (o := o) (σ := η) (t := textL.getD i4 []) (hTT.2.2 i4 hi4_l) (text_ok i4 hi4_l) h3η) wm_L_69 wt_L_write wz_L wc_L_write ⟨by decide, by decide, by decide +kernel⟩ rfl ⟨Nat.le_of_ble_eq_true rfl, Nat.le_of_ble_eq_true rfl⟩ hB hS hAo ⟨by show 5000 + 155 * i4 + 60 ≤ 640286; omega, by show 400000 + 20150 * i4 + 7800 ≤ 7181391; omega⟩ hl.1 rfl (Nat.le_of_ble_eq_true rfl) dL_law_220) hS (fun q h8 => h8) (fun v' H locs hq' hz1 hk1 hS => ?_)
                    obtain ⟨rfl, co9, hco9, hB⟩ := hq'
                    refine core_m (A1 := gA X) (grV (Bh := (SBH X cm o (sbIn η (textL.getD i4 []).length co9))) (n := 0) (As := []) (rest := []) h0 hF (m_X9_read h0 (cm := cm) (o := o) (σ := (sbIn η (textL.getD i4 []).length co9)) hC hW hOη (Okp_in hPη _ _) Ok_oCmd (prs_all i4 hi4_l) (text_ok i4 hi4_l).1 rfl hco9) wm_L_73 wo_X9_read ws_X9__X9_read wz_X9 wc_X9_read ⟨by decide, by decide, by decide +kernel⟩ rfl ⟨Nat.le_of_ble_eq_true rfl, Nat.le_of_ble_eq_true rfl⟩ (ci := 8) (SBH.rec hB) rfl hB hS hAo ⟨by show 5000 + 155 * i4 + 60 + 1 ≤ 640286; omega, by show 400000 + 20150 * i4 + 7800 + 130 ≤ 7181391; omega⟩ hl.1 rfl (Nat.le_of_ble_eq_true rfl) dL_law_223) hS (fun q h8 => h8) (fun v' H locs hq' hz1 hk1 hS => ?_)
                    obtain ⟨rfl, hB⟩ := hq'
                    obtain ⟨θ, hθ, hB⟩ : ∃ θ, θ = sbIn (cinR (sbIn η (textL.getD i4 []).length co9) (PL.getD i4 [])).2 0 ((cinR (sbIn η (textL.getD i4 []).length co9) (PL.getD i4 [])).2.2.2.2.2.2) ∧ SBH X cm o θ H := ⟨_, rfl, hB⟩
                    obtain ⟨a9, ha9⟩ : ∃ a, a = (cinR (sbIn η (textL.getD i4 []).length co9) (PL.getD i4 [])).1 := ⟨_, rfl⟩
                    have hrf := read_f hGη (PL_len i4 hi4_l) (by omega) (textL.getD i4 []).length co9 θ a9 ha9 hθ
                    have hGθ := hrf.1
                    have hOθ := hGθ.O
                    have hOcθ := hGθ.Oc
                    have hPθ := hGθ.P
                    have hWθ := hGθ.2.1.well hGθ.1
                    have hExθ := hGθ.2.1.exempt hGθ.1
                    have hRFθ := hGθ.2.1.RF hGθ.1
                    have hO1θ := hOθ.1
                    have hO2θ := hOθ.2.1
                    have hO3θ := hOθ.2.2.1
                    have hθs : θ.2.1 = ε.1 ∧ θ.2.2.2.1 2 = 1 := ⟨hrf.2.1.trans hηs.2.1, hrf.2.2.1.trans hηs.2.2⟩
                    refine lv_topE (y := a9) ha9.symm ?_
                    rcases hrf.2.2.2 with ⟨hra, hrs, hrE | hrE⟩ | ⟨hra, hcθ, hrs⟩
                    · refine lv_istore (lv' := [(8, .int a9), (0, .ref X.b), (1, .ref o), (2, .int (nI (aN L))), (3, .int 1), (4, .long (digV ε.1)), (6, .int (nI (ε.1.2 0))), (7, .int (nI i4))]) hx hb dL_law_226 hl (by decide) rfl (fun ls hl => ?_)
                      refine lv_iload hx hb dL_law_228 (lv_at hl 0 rfl) ?_
                      refine lv_bipush (v := (-3)) hx hb dL_law_230 (by decide) ?_
                      refine lv_icmp_ne (tgt := 284) hx hb dL_law_232 (by decide) (fun c_232 => absurd hra c_232) (fun c_232 => ?_)
                      refine lv_aload_n hx hb dL_law_235 rfl (lv_at hl 2 rfl) ?_
                      refine lv_iconst (v := 0) hx hb dL_law_236 (by decide) ?_
                      refine lv_iconst (v := 0) hx hb dL_law_237 (by decide) ?_
                      refine core_p (v := .int (θ.2.2.2.2.1 0)) (grV (n := 2) (As := [.int 0, .int 0]) (rest := []) h0 hF (m_X9_reason_0 h0 (cm := cm) (o := o) (σ := θ)) wm_L_155 wo_X9_reason ws_X9__X9_reason wz_X9 wc_X9_reason ⟨by decide, by decide, by decide +kernel⟩ rfl ⟨Nat.le_of_ble_eq_true rfl, Nat.le_of_ble_eq_true rfl⟩ (ci := 8) (SBH.rec hB) rfl hB hS hAo ⟨by show 5000 + 155 * i4 + 60 + 1 + 0 ≤ 640286; omega, by show 400000 + 20150 * i4 + 7800 + 130 + 0 ≤ 7181391; omega⟩ hl.1 rfl (Nat.le_of_ble_eq_true rfl) dL_law_238) ?_
                      refine lv_bipush (v := 13) hx hb dL_law_241 (by decide) ?_
                      refine lv_icmp_ne (tgt := 258) hx hb dL_law_243 (by decide) (fun c_243 => absurd hrE.1 c_243) (fun c_243 => ?_)
                      refine lv_aload_n hx hb dL_law_246 rfl (lv_at hl 2 rfl) ?_
                      refine lv_iconst (v := 1) hx hb dL_law_247 (by decide) ?_
                      refine lv_iconst (v := 0) hx hb dL_law_248 (by decide) ?_
                      refine core_p (v := .int (θ.2.2.2.2.1 2)) (grV (n := 2) (As := [.int 1, .int 0]) (rest := []) h0 hF (m_X9_reason_2 h0 (cm := cm) (o := o) (σ := θ)) wm_L_155 wo_X9_reason ws_X9__X9_reason wz_X9 wc_X9_reason ⟨by decide, by decide, by decide +kernel⟩ rfl ⟨Nat.le_of_ble_eq_true rfl, Nat.le_of_ble_eq_true rfl⟩ (ci := 8) (SBH.rec hB) rfl hB hS hAo ⟨by show 5000 + 155 * i4 + 60 + 1 + 0 ≤ 640286; omega, by show 400000 + 20150 * i4 + 7800 + 130 + 0 ≤ 7181391; omega⟩ hl.1 rfl (Nat.le_of_ble_eq_true rfl) dL_law_249) ?_
                      refine lv_if_le (tgt := 284) hx hb dL_law_252 (by decide) (fun c_252 => absurd c_252 (Int32.not_le.mpr hrE.2)) (fun c_252 => ?_)
                      have n_252 := Int32.not_le.mp c_252
                      refine lv_goto (tgt := 280) hx hb dL_law_255 (by decide) ?_
                      refine lv_iconst (v := 1) hx hb dL_law_280 (by decide) ?_
                      refine lv_goto (tgt := 285) hx hb dL_law_281 (by decide) ?_
                      refine lv_istore (lv' := [(9, .int 1), (8, .int a9), (0, .ref X.b), (1, .ref o), (2, .int (nI (aN L))), (3, .int 1), (4, .long (digV ε.1)), (6, .int (nI (ε.1.2 0))), (7, .int (nI i4))]) hx hb dL_law_285 hl (by decide) rfl (fun ls hl => ?_)
                      refine lv_iload hx hb dL_law_287 (lv_at hl 1 rfl) ?_
                      refine lv_if_ge (tgt := 300) hx hb dL_law_289 (by decide) (fun c_289 => absurd c_289 (by rw [hra]; decide)) (fun c_289 => ?_)
                      have n_289 := Int32.not_le.mp c_289
                      refine lv_iload hx hb dL_law_292 (lv_at hl 0 rfl) ?_
                      refine lv_if_eq (tgt := 335) hx hb dL_law_294 (by decide) (fun c_294 => absurd c_294 (by decide)) (fun c_294 => ?_)
                      refine lv_goto (tgt := 321) hx hb dL_law_297 (by decide) ?_
                      refine lv_aload_n hx hb dL_law_321 rfl (lv_at hl 3 rfl) ?_
                      refine core_p (v := .long (digV θ.1)) (grS (n := 1) (As := [.ref o]) (rest := []) h0 hF (m_L_digest h0 (cm := cm) (o := o) (σ := θ) hOθ ) wm_L_151 wt_L_digest wz_L wc_L_digest ⟨by decide, by decide, by decide +kernel⟩ rfl ⟨Nat.le_of_ble_eq_true rfl, Nat.le_of_ble_eq_true rfl⟩ hB hS hAo ⟨by show 5000 + 155 * i4 + 60 + 1 + 0 ≤ 640286; omega, by show 400000 + 20150 * i4 + 7800 + 130 + 0 ≤ 7181391; omega⟩ hl.1 rfl (Nat.le_of_ble_eq_true rfl) dL_law_322) ?_
                      refine lv_lload hx hb dL_law_325 (lv_at hl 6 rfl) ?_
                      refine W.lcmp hx hb dL_law_327 ?_
                      refine lv_topE (y := 0) (by rw [hrs, hηs.1]; exact lg_cmp_self _) ?_
                      refine lv_if_ne (tgt := 335) hx hb dL_law_328 (by decide) (fun c_328 => absurd c_328 (by decide)) (fun c_328 => ?_)
                      refine lv_iconst (v := 1) hx hb dL_law_331 (by decide) ?_
                      refine lv_goto (tgt := 336) hx hb dL_law_332 (by decide) ?_
                      refine lv_istore_n (lv' := [(3, .int 1), (9, .int 1), (8, .int a9), (0, .ref X.b), (1, .ref o), (2, .int (nI (aN L))), (4, .long (digV ε.1)), (6, .int (nI (ε.1.2 0))), (7, .int (nI i4))]) hx hb dL_law_336 rfl hl (by decide) rfl (fun ls hl => ?_)
                      refine lv_iinc (v := nI (i4 + 1)) (lv' := [(7, .int (nI (i4 + 1))), (3, .int 1), (9, .int 1), (8, .int a9), (0, .ref X.b), (1, .ref o), (2, .int (nI (aN L))), (4, .long (digV ε.1)), (6, .int (nI (ε.1.2 0)))]) hx hb dL_law_337 hl (k := 8) rfl (nI_1 i4) (by decide) rfl (fun ls hl => ?_)
                      refine lv_goto (tgt := 200) hx hb dL_law_340 (by decide) ?_
                      refine W.widen (k := 5000 + 155 * (i4 + 1)) (n := 400000 + 20150 * (i4 + 1)) (by omega) (by omega) ?_
                      refine ih_200 (i4 + 1) (by omega) θ (⟨hGθ.mono (by omega) (by omega), hrs.trans hηs.1, hθs⟩) _ _ hB hS ls (lv_eqv (lv_sub (l' := [(0, .ref X.b), (1, .ref o), (2, .int (nI (aN L))), (3, .int 1), (4, .long (digV ε.1)), (6, .int (nI (ε.1.2 0))), (7, .int (nI (i4 + 1)))]) hl [4, 5, 6, 1, 7, 8, 0] rfl) ?_)
                      rfl
                    · refine lv_istore (lv' := [(8, .int a9), (0, .ref X.b), (1, .ref o), (2, .int (nI (aN L))), (3, .int 1), (4, .long (digV ε.1)), (6, .int (nI (ε.1.2 0))), (7, .int (nI i4))]) hx hb dL_law_226 hl (by decide) rfl (fun ls hl => ?_)
                      refine lv_iload hx hb dL_law_228 (lv_at hl 0 rfl) ?_
                      refine lv_bipush (v := (-3)) hx hb dL_law_230 (by decide) ?_
                      refine lv_icmp_ne (tgt := 284) hx hb dL_law_232 (by decide) (fun c_232 => absurd hra c_232) (fun c_232 => ?_)
                      refine lv_aload_n hx hb dL_law_235 rfl (lv_at hl 2 rfl) ?_
                      refine lv_iconst (v := 0) hx hb dL_law_236 (by decide) ?_
                      refine lv_iconst (v := 0) hx hb dL_law_237 (by decide) ?_
                      refine core_p (v := .int (θ.2.2.2.2.1 0)) (grV (n := 2) (As := [.int 0, .int 0]) (rest := []) h0 hF (m_X9_reason_0 h0 (cm := cm) (o := o) (σ := θ)) wm_L_155 wo_X9_reason ws_X9__X9_reason wz_X9 wc_X9_reason ⟨by decide, by decide, by decide +kernel⟩ rfl ⟨Nat.le_of_ble_eq_true rfl, Nat.le_of_ble_eq_true rfl⟩ (ci := 8) (SBH.rec hB) rfl hB hS hAo ⟨by show 5000 + 155 * i4 + 60 + 1 + 0 ≤ 640286; omega, by show 400000 + 20150 * i4 + 7800 + 130 + 0 ≤ 7181391; omega⟩ hl.1 rfl (Nat.le_of_ble_eq_true rfl) dL_law_238) ?_
                      refine lv_bipush (v := 13) hx hb dL_law_241 (by decide) ?_
                      refine lv_icmp_ne (tgt := 258) hx hb dL_law_243 (by decide) (fun c_243 => ?_) (fun c_243 => absurd (hrE.1.symm.trans c_243) (by decide))
                      refine lv_aload_n hx hb dL_law_258 rfl (lv_at hl 2 rfl) ?_
                      refine lv_iconst (v := 0) hx hb dL_law_259 (by decide) ?_
                      refine lv_iconst (v := 0) hx hb dL_law_260 (by decide) ?_
                      refine core_p (v := .int (θ.2.2.2.2.1 0)) (grV (n := 2) (As := [.int 0, .int 0]) (rest := []) h0 hF (m_X9_reason_0 h0 (cm := cm) (o := o) (σ := θ)) wm_L_155 wo_X9_reason ws_X9__X9_reason wz_X9 wc_X9_reason ⟨by decide, by decide, by decide +kernel⟩ rfl ⟨Nat.le_of_ble_eq_true rfl, Nat.le_of_ble_eq_true rfl⟩ (ci := 8) (SBH.rec hB) rfl hB hS hAo ⟨by show 5000 + 155 * i4 + 60 + 1 + 0 ≤ 640286; omega, by show 400000 + 20150 * i4 + 7800 + 130 + 0 ≤ 7181391; omega⟩ hl.1 rfl (Nat.le_of_ble_eq_true rfl) dL_law_261) ?_
                      refine lv_bipush (v := 14) hx hb dL_law_264 (by decide) ?_
                      refine lv_icmp_ne (tgt := 284) hx hb dL_law_266 (by decide) (fun c_266 => absurd hrE.1 c_266) (fun c_266 => ?_)
                      refine lv_aload_n hx hb dL_law_269 rfl (lv_at hl 2 rfl) ?_
                      refine lv_iconst (v := 1) hx hb dL_law_270 (by decide) ?_
                      refine lv_iconst (v := 0) hx hb dL_law_271 (by decide) ?_
                      refine core_p (v := .int (θ.2.2.2.2.1 2)) (grV (n := 2) (As := [.int 1, .int 0]) (rest := []) h0 hF (m_X9_reason_2 h0 (cm := cm) (o := o) (σ := θ)) wm_L_155 wo_X9_reason ws_X9__X9_reason wz_X9 wc_X9_reason ⟨by decide, by decide, by decide +kernel⟩ rfl ⟨Nat.le_of_ble_eq_true rfl, Nat.le_of_ble_eq_true rfl⟩ (ci := 8) (SBH.rec hB) rfl hB hS hAo ⟨by show 5000 + 155 * i4 + 60 + 1 + 0 ≤ 640286; omega, by show 400000 + 20150 * i4 + 7800 + 130 + 0 ≤ 7181391; omega⟩ hl.1 rfl (Nat.le_of_ble_eq_true rfl) dL_law_272) ?_
                      refine lv_bipush (v := (-4)) hx hb dL_law_275 (by decide) ?_
                      refine lv_icmp_ne (tgt := 284) hx hb dL_law_277 (by decide) (fun c_277 => absurd hrE.2 c_277) (fun c_277 => ?_)
                      refine lv_iconst (v := 1) hx hb dL_law_280 (by decide) ?_
                      refine lv_goto (tgt := 285) hx hb dL_law_281 (by decide) ?_
                      refine lv_istore (lv' := [(9, .int 1), (8, .int a9), (0, .ref X.b), (1, .ref o), (2, .int (nI (aN L))), (3, .int 1), (4, .long (digV ε.1)), (6, .int (nI (ε.1.2 0))), (7, .int (nI i4))]) hx hb dL_law_285 hl (by decide) rfl (fun ls hl => ?_)
                      refine lv_iload hx hb dL_law_287 (lv_at hl 1 rfl) ?_
                      refine lv_if_ge (tgt := 300) hx hb dL_law_289 (by decide) (fun c_289 => absurd c_289 (by rw [hra]; decide)) (fun c_289 => ?_)
                      have n_289 := Int32.not_le.mp c_289
                      refine lv_iload hx hb dL_law_292 (lv_at hl 0 rfl) ?_
                      refine lv_if_eq (tgt := 335) hx hb dL_law_294 (by decide) (fun c_294 => absurd c_294 (by decide)) (fun c_294 => ?_)
                      refine lv_goto (tgt := 321) hx hb dL_law_297 (by decide) ?_
                      refine lv_aload_n hx hb dL_law_321 rfl (lv_at hl 3 rfl) ?_
                      refine core_p (v := .long (digV θ.1)) (grS (n := 1) (As := [.ref o]) (rest := []) h0 hF (m_L_digest h0 (cm := cm) (o := o) (σ := θ) hOθ ) wm_L_151 wt_L_digest wz_L wc_L_digest ⟨by decide, by decide, by decide +kernel⟩ rfl ⟨Nat.le_of_ble_eq_true rfl, Nat.le_of_ble_eq_true rfl⟩ hB hS hAo ⟨by show 5000 + 155 * i4 + 60 + 1 + 0 ≤ 640286; omega, by show 400000 + 20150 * i4 + 7800 + 130 + 0 ≤ 7181391; omega⟩ hl.1 rfl (Nat.le_of_ble_eq_true rfl) dL_law_322) ?_
                      refine lv_lload hx hb dL_law_325 (lv_at hl 6 rfl) ?_
                      refine W.lcmp hx hb dL_law_327 ?_
                      refine lv_topE (y := 0) (by rw [hrs, hηs.1]; exact lg_cmp_self _) ?_
                      refine lv_if_ne (tgt := 335) hx hb dL_law_328 (by decide) (fun c_328 => absurd c_328 (by decide)) (fun c_328 => ?_)
                      refine lv_iconst (v := 1) hx hb dL_law_331 (by decide) ?_
                      refine lv_goto (tgt := 336) hx hb dL_law_332 (by decide) ?_
                      refine lv_istore_n (lv' := [(3, .int 1), (9, .int 1), (8, .int a9), (0, .ref X.b), (1, .ref o), (2, .int (nI (aN L))), (4, .long (digV ε.1)), (6, .int (nI (ε.1.2 0))), (7, .int (nI i4))]) hx hb dL_law_336 rfl hl (by decide) rfl (fun ls hl => ?_)
                      refine lv_iinc (v := nI (i4 + 1)) (lv' := [(7, .int (nI (i4 + 1))), (3, .int 1), (9, .int 1), (8, .int a9), (0, .ref X.b), (1, .ref o), (2, .int (nI (aN L))), (4, .long (digV ε.1)), (6, .int (nI (ε.1.2 0)))]) hx hb dL_law_337 hl (k := 8) rfl (nI_1 i4) (by decide) rfl (fun ls hl => ?_)
                      refine lv_goto (tgt := 200) hx hb dL_law_340 (by decide) ?_
                      refine W.widen (k := 5000 + 155 * (i4 + 1)) (n := 400000 + 20150 * (i4 + 1)) (by omega) (by omega) ?_
                      refine ih_200 (i4 + 1) (by omega) θ (⟨hGθ.mono (by omega) (by omega), hrs.trans hηs.1, hθs⟩) _ _ hB hS ls (lv_eqv (lv_sub (l' := [(0, .ref X.b), (1, .ref o), (2, .int (nI (aN L))), (3, .int 1), (4, .long (digV ε.1)), (6, .int (nI (ε.1.2 0))), (7, .int (nI (i4 + 1)))]) hl [4, 5, 6, 1, 7, 8, 0] rfl) ?_)
                      rfl
                    · refine lv_istore (lv' := [(8, .int a9), (0, .ref X.b), (1, .ref o), (2, .int (nI (aN L))), (3, .int 1), (4, .long (digV ε.1)), (6, .int (nI (ε.1.2 0))), (7, .int (nI i4))]) hx hb dL_law_226 hl (by decide) rfl (fun ls hl => ?_)
                      refine lv_iload hx hb dL_law_228 (lv_at hl 0 rfl) ?_
                      refine lv_bipush (v := (-3)) hx hb dL_law_230 (by decide) ?_
                      refine lv_icmp_ne (tgt := 284) hx hb dL_law_232 (by decide) (fun c_232 => ?_) (fun c_232 => absurd (by rw [c_232]; decide) hra)
                      refine lv_iconst (v := 0) hx hb dL_law_284 (by decide) ?_
                      refine lv_istore (lv' := [(9, .int 0), (8, .int a9), (0, .ref X.b), (1, .ref o), (2, .int (nI (aN L))), (3, .int 1), (4, .long (digV ε.1)), (6, .int (nI (ε.1.2 0))), (7, .int (nI i4))]) hx hb dL_law_285 hl (by decide) rfl (fun ls hl => ?_)
                      refine lv_iload hx hb dL_law_287 (lv_at hl 1 rfl) ?_
                      refine lv_if_ge (tgt := 300) hx hb dL_law_289 (by decide) (fun c_289 => ?_) (fun c_289 => absurd (Int32.not_le.mp c_289) hra)
                      have n_289 := Int32.not_lt.mpr c_289
                      refine lv_aload_n hx hb dL_law_300 rfl (lv_at hl 3 rfl) ?_
                      refine core_m (A1 := gA X) (grS (Bh := (SBH X cm o θ)) (n := 1) (As := [.ref o]) (rest := []) h0 hF (m_L_areStars h0 (cm := cm) (o := o) (σ := θ) hOθ hOcθ hWθ hExθ) wm_L_170 wt_L_areStars wz_L wc_L_areStars ⟨by decide, by decide, by decide +kernel⟩ rfl ⟨Nat.le_of_ble_eq_true rfl, Nat.le_of_ble_eq_true rfl⟩ hB hS hAo ⟨by show 5000 + 155 * i4 + 60 + 1 + 44 ≤ 640286; omega, by show 400000 + 20150 * i4 + 7800 + 130 + 5720 ≤ 7181391; omega⟩ hl.1 rfl (Nat.le_of_ble_eq_true rfl) dL_law_301) hS (fun q h8 => h8) (fun v' H locs hq' hz1 hk1 hS => ?_)
                      obtain ⟨rfl, hB⟩ := hq'
                      refine lv_if_eq (tgt := 335) hx hb dL_law_304 (by decide) (fun c_304 => absurd c_304 (by decide)) (fun c_304 => ?_)
                      refine lv_aload_n hx hb dL_law_307 rfl (lv_at hl 3 rfl) ?_
                      refine core_m (A1 := gA X) (grS (Bh := (SBH X cm o θ)) (n := 1) (As := [.ref o]) (rest := []) h0 hF (m_L_areRoofs h0 (cm := cm) (o := o) (σ := θ) hOθ hWθ hRFθ) wm_L_174 wt_L_areRoofs wz_L wc_L_areRoofs ⟨by decide, by decide, by decide +kernel⟩ rfl ⟨Nat.le_of_ble_eq_true rfl, Nat.le_of_ble_eq_true rfl⟩ hB hS hAo ⟨by show 5000 + 155 * i4 + 60 + 1 + 44 + 50 ≤ 640286; omega, by show 400000 + 20150 * i4 + 7800 + 130 + 5720 + 6500 ≤ 7181391; omega⟩ hl.1 rfl (Nat.le_of_ble_eq_true rfl) dL_law_308) hS (fun q h8 => h8) (fun v' H locs hq' hz1 hk1 hS => ?_)
                      obtain ⟨rfl, hB⟩ := hq'
                      refine lv_if_eq (tgt := 335) hx hb dL_law_311 (by decide) (fun c_311 => absurd c_311 (by decide)) (fun c_311 => ?_)
                      refine lv_aload_n hx hb dL_law_314 rfl (lv_at hl 3 rfl) ?_
                      refine core_m (A1 := gA X) (grV (Bh := (SBH X cm o θ)) (n := 0) (As := []) (rest := []) h0 hF (m_X9_undo h0 (cm := cm) (o := o) (σ := θ) hPθ hcθ) wm_L_82 wo_X9_undo ws_X9__X9_undo wz_X9 wc_X9_undo ⟨by decide, by decide, by decide +kernel⟩ rfl ⟨Nat.le_of_ble_eq_true rfl, Nat.le_of_ble_eq_true rfl⟩ (ci := 8) (SBH.rec hB) rfl hB hS hAo ⟨by show 5000 + 155 * i4 + 60 + 1 + 44 + 50 + 0 ≤ 640286; omega, by show 400000 + 20150 * i4 + 7800 + 130 + 5720 + 6500 + 0 ≤ 7181391; omega⟩ hl.1 rfl (Nat.le_of_ble_eq_true rfl) dL_law_315) hS (fun q h8 => h8) (fun v' H locs hq' hz1 hk1 hS => ?_)
                      obtain ⟨rfl, hB⟩ := hq'
                      obtain ⟨κ, hκ, hB⟩ : ∃ κ, κ = sbBack θ ∧ SBH X cm o κ H := ⟨_, rfl, hB⟩
                      have hGκ := hGθ.back
                      rw [← hκ] at hGκ hrs
                      have hOκ := hGκ.1.O
                      refine lv_if_lt (tgt := 335) hx hb dL_law_318 (by decide) (fun c_318 => absurd c_318 (nI_pos (by have := hPθ.1; omega))) (fun c_318 => ?_)
                      have n_318 := Int32.not_lt.mp c_318
                      refine lv_aload_n hx hb dL_law_321 rfl (lv_at hl 3 rfl) ?_
                      refine core_p (v := .long (digV κ.1)) (grS (n := 1) (As := [.ref o]) (rest := []) h0 hF (m_L_digest h0 (cm := cm) (o := o) (σ := κ) hOκ ) wm_L_151 wt_L_digest wz_L wc_L_digest ⟨by decide, by decide, by decide +kernel⟩ rfl ⟨Nat.le_of_ble_eq_true rfl, Nat.le_of_ble_eq_true rfl⟩ hB hS hAo ⟨by show 5000 + 155 * i4 + 60 + 1 + 44 + 50 + 0 ≤ 640286; omega, by show 400000 + 20150 * i4 + 7800 + 130 + 5720 + 6500 + 0 ≤ 7181391; omega⟩ hl.1 rfl (Nat.le_of_ble_eq_true rfl) dL_law_322) ?_
                      refine lv_lload hx hb dL_law_325 (lv_at hl 6 rfl) ?_
                      refine W.lcmp hx hb dL_law_327 ?_
                      refine lv_topE (y := 0) (by rw [hrs, hηs.1]; exact lg_cmp_self _) ?_
                      refine lv_if_ne (tgt := 335) hx hb dL_law_328 (by decide) (fun c_328 => absurd c_328 (by decide)) (fun c_328 => ?_)
                      refine lv_iconst (v := 1) hx hb dL_law_331 (by decide) ?_
                      refine lv_goto (tgt := 336) hx hb dL_law_332 (by decide) ?_
                      refine lv_istore_n (lv' := [(3, .int 1), (9, .int 0), (8, .int a9), (0, .ref X.b), (1, .ref o), (2, .int (nI (aN L))), (4, .long (digV ε.1)), (6, .int (nI (ε.1.2 0))), (7, .int (nI i4))]) hx hb dL_law_336 rfl hl (by decide) rfl (fun ls hl => ?_)
                      refine lv_iinc (v := nI (i4 + 1)) (lv' := [(7, .int (nI (i4 + 1))), (3, .int 1), (9, .int 0), (8, .int a9), (0, .ref X.b), (1, .ref o), (2, .int (nI (aN L))), (4, .long (digV ε.1)), (6, .int (nI (ε.1.2 0)))]) hx hb dL_law_337 hl (k := 8) rfl (nI_1 i4) (by decide) rfl (fun ls hl => ?_)
                      refine lv_goto (tgt := 200) hx hb dL_law_340 (by decide) ?_
                      refine W.widen (k := 5000 + 155 * (i4 + 1)) (n := 400000 + 20150 * (i4 + 1)) (by omega) (by omega) ?_
                      refine ih_200 (i4 + 1) (by omega) κ (⟨hGκ.1.mono (by omega) (by omega), hrs.trans hηs.1, hGκ.2.1.trans hθs.1, hGκ.2.2.trans hθs.2⟩) _ _ hB hS ls (lv_eqv (lv_sub (l' := [(0, .ref X.b), (1, .ref o), (2, .int (nI (aN L))), (3, .int 1), (4, .long (digV ε.1)), (6, .int (nI (ε.1.2 0))), (7, .int (nI (i4 + 1)))]) hl [4, 5, 6, 1, 7, 8, 0] rfl) ?_)
                      rfl
                refine W.widen (k := 5000 + 155 * 0) (n := 400000 + 20150 * 0) (by omega) (by omega) ?_
                exact key_200 (30) 0 (by omega) ζ (⟨hGζ, hζs⟩) _ _ hB hS ls (lv_sub hl [4, 5, 6, 3, 2, 1, 0] rfl)
              | succ nf ih_115 =>
                intro i3 hi3 β hx_i3 H locs hB hS ls hl
                have hi3_l : i3 < (aN L) := by omega
                have hGβ := hx_i3
                have hOβ := hGβ.O
                have hPβ := hGβ.P
                refine lv_iload_n hx hb dL_law_115 rfl (lv_at hl 3 rfl) ?_
                refine lv_iload_n hx hb dL_law_116 rfl (lv_at hl 2 rfl) ?_
                refine lv_icmp_ge (tgt := 175) hx hb dL_law_117 (by decide) (fun c_117 => absurd c_117 (nI_ge (a := i3) (b := (aN L)) (by omega) (by omega))) (fun c_117 => ?_)
                have n_117 := Int32.not_le.mp c_117
                refine lv_aload_n hx hb dL_law_120 rfl (lv_at hl 1 rfl) ?_
                refine core_p (v := .long (digV β.1)) (grS (n := 1) (As := [.ref o]) (rest := []) h0 hF (m_L_digest h0 (cm := cm) (o := o) (σ := β) hOβ ) wm_L_151 wt_L_digest wz_L wc_L_digest ⟨by decide, by decide, by decide +kernel⟩ rfl ⟨Nat.le_of_ble_eq_true rfl, Nat.le_of_ble_eq_true rfl⟩ hB hS hAo ⟨by show 2000 + 61 * i3 + 0 ≤ 640286; omega, by show 3000 + 7930 * i3 + 0 ≤ 7181391; omega⟩ hl.1 rfl (Nat.le_of_ble_eq_true rfl) dL_law_121) ?_
                refine lv_lstore (lv' := [(4, .long (digV β.1)), (0, .ref X.b), (1, .ref o), (2, .int (nI (aN L))), (3, .int (nI i3))]) hx hb dL_law_124 hl (by decide) rfl (fun ls hl => ?_)
                refine lv_aload_n hx hb dL_law_126 rfl (lv_at hl 2 rfl) ?_
                refine lv_aload_n hx hb dL_law_127 rfl (lv_at hl 1 rfl) ?_
                refine lv_iload_n hx hb dL_law_128 rfl (lv_at hl 4 rfl) ?_
                refine core_p (v := .int (xs (i3 % L))) (grS (n := 2) (As := [.ref X.b, .int (nI i3)]) (rest := [.ref o]) h0 hF (m_L_cell h0 (L := L) (xs := xs) hX hbz (by omega) hL (i := i3) (by omega)) wm_L_201 wt_L_cell wz_L wc_L_cell ⟨by decide, by decide, by decide +kernel⟩ rfl ⟨Nat.le_of_ble_eq_true rfl, Nat.le_of_ble_eq_true rfl⟩ trivial hS hAo ⟨by show 2000 + 61 * i3 + 0 ≤ 640286; omega, by show 3000 + 7930 * i3 + 0 ≤ 7181391; omega⟩ hl.1 rfl (Nat.le_of_ble_eq_true rfl) dL_law_129) ?_
                refine core_m (A1 := gA X) (grS (Bh := (SBH X cm o β)) (n := 2) (As := [.ref o, .int (xs (i3 % L))]) (rest := []) h0 hF (m_L_act h0 (cm := cm) (o := o) (σ := β) hC hW hTT hGβ (by omega) (xs (i3 % L))) wm_L_205 wt_L_act wz_L wc_L_act ⟨by decide, by decide, by decide +kernel⟩ rfl ⟨Nat.le_of_ble_eq_true rfl, Nat.le_of_ble_eq_true rfl⟩ hB hS hAo ⟨by show 2000 + 61 * i3 + 61 ≤ 640286; omega, by show 3000 + 7930 * i3 + 7930 ≤ 7181391; omega⟩ hl.1 rfl (Nat.le_of_ble_eq_true rfl) dL_law_132) hS (fun q h8 => h8) (fun v' H locs hq' hz1 hk1 hS => ?_)
                obtain ⟨a9, γ, rfl, hB, hGγ, hna⟩ := hq'
                have hOγ := hGγ.O
                refine lv_istore (lv' := [(6, .int a9), (4, .long (digV β.1)), (0, .ref X.b), (1, .ref o), (2, .int (nI (aN L))), (3, .int (nI i3))]) hx hb dL_law_135 hl (by decide) rfl (fun ls hl => ?_)
                refine lv_iload hx hb dL_law_137 (lv_at hl 0 rfl) ?_
                refine lv_bipush (v := (-3)) hx hb dL_law_139 (by decide) ?_
                refine lv_icmp_eq (tgt := 157) hx hb dL_law_141 (by decide) (fun c_141 => ?_) (fun c_141 => ?_)
                · have hse : γ.1 = β.1 := hna (Or.inr (Or.inr c_141))
                  refine lv_aload_n hx hb dL_law_157 rfl (lv_at hl 3 rfl) ?_
                  refine core_p (v := .long (digV γ.1)) (grS (n := 1) (As := [.ref o]) (rest := []) h0 hF (m_L_digest h0 (cm := cm) (o := o) (σ := γ) hOγ ) wm_L_151 wt_L_digest wz_L wc_L_digest ⟨by decide, by decide, by decide +kernel⟩ rfl ⟨Nat.le_of_ble_eq_true rfl, Nat.le_of_ble_eq_true rfl⟩ hB hS hAo ⟨by show 2000 + 61 * i3 + 61 + 0 ≤ 640286; omega, by show 3000 + 7930 * i3 + 7930 + 0 ≤ 7181391; omega⟩ hl.1 rfl (Nat.le_of_ble_eq_true rfl) dL_law_158) ?_
                  refine lv_lload hx hb dL_law_161 (lv_at hl 1 rfl) ?_
                  refine W.lcmp hx hb dL_law_163 ?_
                  refine lv_topE (y := 0) (by rw [hse]; exact lg_cmp_self _) ?_
                  refine lv_if_eq (tgt := 169) hx hb dL_law_164 (by decide) (fun c_164 => ?_) (fun c_164 => absurd c_164 (by decide))
                  refine lv_iinc (v := nI (i3 + 1)) (lv' := [(3, .int (nI (i3 + 1))), (6, .int a9), (4, .long (digV β.1)), (0, .ref X.b), (1, .ref o), (2, .int (nI (aN L)))]) hx hb dL_law_169 hl (k := 5) rfl (nI_1 i3) (by decide) rfl (fun ls hl => ?_)
                  refine lv_goto (tgt := 115) hx hb dL_law_172 (by decide) ?_
                  refine W.widen (k := 2000 + 61 * (i3 + 1)) (n := 3000 + 7930 * (i3 + 1)) (by omega) (by omega) ?_
                  refine ih_115 (i3 + 1) (by omega) γ ((hGγ.mono (by omega) (by omega))) _ _ hB hS ls (lv_eqv (lv_sub (l' := [(0, .ref X.b), (1, .ref o), (2, .int (nI (aN L))), (3, .int (nI (i3 + 1)))]) hl [3, 4, 5, 0] rfl) ?_)
                  rfl
                · refine lv_iload hx hb dL_law_144 (lv_at hl 0 rfl) ?_
                  refine lv_bipush (v := (-2)) hx hb dL_law_146 (by decide) ?_
                  refine lv_icmp_eq (tgt := 157) hx hb dL_law_148 (by decide) (fun c_148 => ?_) (fun c_148 => ?_)
                  · have hse : γ.1 = β.1 := hna (Or.inr (Or.inl c_148))
                    refine lv_aload_n hx hb dL_law_157 rfl (lv_at hl 3 rfl) ?_
                    refine core_p (v := .long (digV γ.1)) (grS (n := 1) (As := [.ref o]) (rest := []) h0 hF (m_L_digest h0 (cm := cm) (o := o) (σ := γ) hOγ ) wm_L_151 wt_L_digest wz_L wc_L_digest ⟨by decide, by decide, by decide +kernel⟩ rfl ⟨Nat.le_of_ble_eq_true rfl, Nat.le_of_ble_eq_true rfl⟩ hB hS hAo ⟨by show 2000 + 61 * i3 + 61 + 0 ≤ 640286; omega, by show 3000 + 7930 * i3 + 7930 + 0 ≤ 7181391; omega⟩ hl.1 rfl (Nat.le_of_ble_eq_true rfl) dL_law_158) ?_
                    refine lv_lload hx hb dL_law_161 (lv_at hl 1 rfl) ?_
                    refine W.lcmp hx hb dL_law_163 ?_
                    refine lv_topE (y := 0) (by rw [hse]; exact lg_cmp_self _) ?_
                    refine lv_if_eq (tgt := 169) hx hb dL_law_164 (by decide) (fun c_164 => ?_) (fun c_164 => absurd c_164 (by decide))
                    refine lv_iinc (v := nI (i3 + 1)) (lv' := [(3, .int (nI (i3 + 1))), (6, .int a9), (4, .long (digV β.1)), (0, .ref X.b), (1, .ref o), (2, .int (nI (aN L)))]) hx hb dL_law_169 hl (k := 5) rfl (nI_1 i3) (by decide) rfl (fun ls hl => ?_)
                    refine lv_goto (tgt := 115) hx hb dL_law_172 (by decide) ?_
                    refine W.widen (k := 2000 + 61 * (i3 + 1)) (n := 3000 + 7930 * (i3 + 1)) (by omega) (by omega) ?_
                    refine ih_115 (i3 + 1) (by omega) γ ((hGγ.mono (by omega) (by omega))) _ _ hB hS ls (lv_eqv (lv_sub (l' := [(0, .ref X.b), (1, .ref o), (2, .int (nI (aN L))), (3, .int (nI (i3 + 1)))]) hl [3, 4, 5, 0] rfl) ?_)
                    rfl
                  · refine lv_iload hx hb dL_law_151 (lv_at hl 0 rfl) ?_
                    refine lv_iconst (v := (-1)) hx hb dL_law_153 (by decide) ?_
                    refine lv_icmp_ne (tgt := 169) hx hb dL_law_154 (by decide) (fun c_154 => ?_) (fun c_154 => ?_)
                    · refine lv_iinc (v := nI (i3 + 1)) (lv' := [(3, .int (nI (i3 + 1))), (6, .int a9), (4, .long (digV β.1)), (0, .ref X.b), (1, .ref o), (2, .int (nI (aN L)))]) hx hb dL_law_169 hl (k := 5) rfl (nI_1 i3) (by decide) rfl (fun ls hl => ?_)
                      refine lv_goto (tgt := 115) hx hb dL_law_172 (by decide) ?_
                      refine W.widen (k := 2000 + 61 * (i3 + 1)) (n := 3000 + 7930 * (i3 + 1)) (by omega) (by omega) ?_
                      refine ih_115 (i3 + 1) (by omega) γ ((hGγ.mono (by omega) (by omega))) _ _ hB hS ls (lv_eqv (lv_sub (l' := [(0, .ref X.b), (1, .ref o), (2, .int (nI (aN L))), (3, .int (nI (i3 + 1)))]) hl [3, 4, 5, 0] rfl) ?_)
                      rfl
                    · have hse : γ.1 = β.1 := hna (Or.inl c_154)
                      refine lv_aload_n hx hb dL_law_157 rfl (lv_at hl 3 rfl) ?_
                      refine core_p (v := .long (digV γ.1)) (grS (n := 1) (As := [.ref o]) (rest := []) h0 hF (m_L_digest h0 (cm := cm) (o := o) (σ := γ) hOγ ) wm_L_151 wt_L_digest wz_L wc_L_digest ⟨by decide, by decide, by decide +kernel⟩ rfl ⟨Nat.le_of_ble_eq_true rfl, Nat.le_of_ble_eq_true rfl⟩ hB hS hAo ⟨by show 2000 + 61 * i3 + 61 + 0 ≤ 640286; omega, by show 3000 + 7930 * i3 + 7930 + 0 ≤ 7181391; omega⟩ hl.1 rfl (Nat.le_of_ble_eq_true rfl) dL_law_158) ?_
                      refine lv_lload hx hb dL_law_161 (lv_at hl 1 rfl) ?_
                      refine W.lcmp hx hb dL_law_163 ?_
                      refine lv_topE (y := 0) (by rw [hse]; exact lg_cmp_self _) ?_
                      refine lv_if_eq (tgt := 169) hx hb dL_law_164 (by decide) (fun c_164 => ?_) (fun c_164 => absurd c_164 (by decide))
                      refine lv_iinc (v := nI (i3 + 1)) (lv' := [(3, .int (nI (i3 + 1))), (6, .int a9), (4, .long (digV β.1)), (0, .ref X.b), (1, .ref o), (2, .int (nI (aN L)))]) hx hb dL_law_169 hl (k := 5) rfl (nI_1 i3) (by decide) rfl (fun ls hl => ?_)
                      refine lv_goto (tgt := 115) hx hb dL_law_172 (by decide) ?_
                      refine W.widen (k := 2000 + 61 * (i3 + 1)) (n := 3000 + 7930 * (i3 + 1)) (by omega) (by omega) ?_
                      refine ih_115 (i3 + 1) (by omega) γ ((hGγ.mono (by omega) (by omega))) _ _ hB hS ls (lv_eqv (lv_sub (l' := [(0, .ref X.b), (1, .ref o), (2, .int (nI (aN L))), (3, .int (nI (i3 + 1)))]) hl [3, 4, 5, 0] rfl) ?_)
                      rfl
            refine W.widen (k := 2000 + 61 * 0) (n := 3000 + 7930 * 0) (by omega) (by omega) ?_
            exact key_115 ((aN L)) 0 (by omega) α (hGα) _ _ hB hS ls (lv_sub hl [2, 3, 1, 0] rfl)
          refine lv_aload_n hx hb dL_law_98 rfl (lv_at hl 0 rfl) ?_
          refine va_slen hx hb (hG.scr hX hbz) (Nat.lt_of_lt_of_le hbz hG.2.1) (hAo _ hbz) hS dL_law_99 ?_
          refine lv_bipush (v := 36) hx hb dL_law_100 (by decide) ?_
          refine lv_icmp_ge (tgt := 110) hx hb dL_law_102 (by decide) (fun c_102 => ?_) (fun c_102 => ?_)
          · have n_102 := Int32.not_lt.mpr c_102
            refine lv_bipush (v := 36) hx hb dL_law_110 (by decide) ?_
            exact hJ_98 _ (by first | exact aN_t c_102 hL | exact aN_f c_102 hL)
          · have n_102 := Int32.not_le.mp c_102
            refine lv_aload_n hx hb dL_law_105 rfl (lv_at hl 0 rfl) ?_
            refine va_slen hx hb (hG.scr hX hbz) (Nat.lt_of_lt_of_le hbz hG.2.1) (hAo _ hbz) hS dL_law_106 ?_
            refine lv_goto (tgt := 112) hx hb dL_law_107 (by decide) ?_
            exact hJ_98 _ (by first | exact aN_t c_102 hL | exact aN_f c_102 hL)
        | succ nf ih_34 =>
          intro i2 hi2 π hx_i2 H locs hB hS ls hl
          have hi2_l : i2 < 3 := by omega
          have hGπ := hx_i2
          have hOπ := hGπ.O
          have hPπ := hGπ.P
          refine lv_iload_n hx hb dL_law_34 rfl (lv_at hl 2 rfl) ?_
          refine lv_iconst (v := 3) hx hb dL_law_35 (by decide) ?_
          refine lv_icmp_ge (tgt := 91) hx hb dL_law_36 (by decide) (fun c_36 => absurd c_36 (nI_ge (a := i2) (b := 3) (by omega) (by omega))) (fun c_36 => ?_)
          have n_36 := Int32.not_le.mp c_36
          refine lv_aload_n hx hb dL_law_39 rfl (lv_at hl 1 rfl) ?_
          refine lv_bipush (v := 6) hx hb dL_law_40 (by decide) ?_
          refine lv_iload_n hx hb dL_law_42 rfl (lv_at hl 2 rfl) ?_
          refine lv_imul hx hb dL_law_43 ?_
          refine core_m (A1 := gA X) (grV (Bh := (SBH X cm o π)) (n := 1) (As := [.int (6 * (nI i2))]) (rest := []) h0 hF (m_X9_roof h0 (cm := cm) (o := o) (σ := π) hC hOπ hPπ (6 * (nI i2))) wm_L_28 wo_X9_roof ws_X9__X9_roof wz_X9 wc_X9_roof ⟨by decide, by decide, by decide +kernel⟩ rfl ⟨Nat.le_of_ble_eq_true rfl, Nat.le_of_ble_eq_true rfl⟩ (ci := 8) (SBH.rec hB) rfl hB hS hAo ⟨Nat.le_of_ble_eq_true rfl, Nat.le_of_ble_eq_true rfl⟩ hl.1 rfl (Nat.le_of_ble_eq_true rfl) dL_law_44) hS (fun q h8 => h8) (fun v' H locs hq' hz1 hk1 hS => ?_)
          obtain ⟨rfl, hB⟩ := hq'
          obtain ⟨π1, hπ1, hB⟩ : ∃ π1, π1 = sbChg π (oCmd π.1 π.2.2.2.2.1 1 (6 * (nI i2)) 0 0) ∧ SBH X cm o π1 H := ⟨_, rfl, hB⟩
          have hGπ1 : GI (5 + 5 * i2 + 1) π1 := by rw [hπ1]; exact hGπ.chg (by omega) 1 _ _ _
          have hOπ1 := hGπ1.O
          have hPπ1 := hGπ1.P
          have hsπ1 : π1.2.1 = π.2.1 ∧ π1.2.2.2.1 2 = π.2.2.2.1 2 := by rw [hπ1]; exact chg_1.2
          refine lv_pop hx hb dL_law_47 rfl ?_
          refine lv_aload_n hx hb dL_law_48 rfl (lv_at hl 1 rfl) ?_
          refine lv_iload_n hx hb dL_law_49 rfl (lv_at hl 2 rfl) ?_
          refine lv_iload_n hx hb dL_law_50 rfl (lv_at hl 2 rfl) ?_
          refine lv_iconst (v := 1) hx hb dL_law_51 (by decide) ?_
          refine lv_iadd hx hb dL_law_52 ?_
          refine core_m (A1 := gA X) (grV (Bh := (SBH X cm o π1)) (n := 2) (As := [.int (nI i2), .int ((nI i2) + 1)]) (rest := []) h0 hF (m_X9_sight h0 (cm := cm) (o := o) (σ := π1) hC hOπ1 hPπ1 (nI i2) ((nI i2) + 1)) wm_L_35 wo_X9_sight ws_X9__X9_sight wz_X9 wc_X9_sight ⟨by decide, by decide, by decide +kernel⟩ rfl ⟨Nat.le_of_ble_eq_true rfl, Nat.le_of_ble_eq_true rfl⟩ (ci := 8) (SBH.rec hB) rfl hB hS hAo ⟨Nat.le_of_ble_eq_true rfl, Nat.le_of_ble_eq_true rfl⟩ hl.1 rfl (Nat.le_of_ble_eq_true rfl) dL_law_53) hS (fun q h8 => h8) (fun v' H locs hq' hz1 hk1 hS => ?_)
          obtain ⟨rfl, hB⟩ := hq'
          obtain ⟨π2, hπ2, hB⟩ : ∃ π2, π2 = sbChg π1 (oCmd π1.1 π1.2.2.2.2.1 3 (nI i2) ((nI i2) + 1) 0) ∧ SBH X cm o π2 H := ⟨_, rfl, hB⟩
          have hGπ2 : GI (5 + 5 * i2 + 2) π2 := by rw [hπ2]; exact hGπ1.chg (by omega) 3 _ _ _
          have hOπ2 := hGπ2.O
          have hPπ2 := hGπ2.P
          have hsπ2 : π2.2.1 = π1.2.1 ∧ π2.2.2.2.1 2 = π1.2.2.2.1 2 := by rw [hπ2]; exact chg_1.2
          refine lv_pop hx hb dL_law_56 rfl ?_
          refine lv_aload_n hx hb dL_law_57 rfl (lv_at hl 1 rfl) ?_
          refine lv_iload_n hx hb dL_law_58 rfl (lv_at hl 2 rfl) ?_
          refine lv_iload_n hx hb dL_law_59 rfl (lv_at hl 2 rfl) ?_
          refine lv_iconst (v := 1) hx hb dL_law_60 (by decide) ?_
          refine lv_iadd hx hb dL_law_61 ?_
          refine lv_iload_n hx hb dL_law_62 rfl (lv_at hl 2 rfl) ?_
          refine core_m (A1 := gA X) (grV (Bh := (SBH X cm o π2)) (n := 3) (As := [.int (nI i2), .int ((nI i2) + 1), .int (nI i2)]) (rest := []) h0 hF (m_X9_wish h0 (cm := cm) (o := o) (σ := π2) hC hOπ2 hPπ2 (nI i2) ((nI i2) + 1) (nI i2)) wm_L_47 wo_X9_wish ws_X9__X9_wish wz_X9 wc_X9_wish ⟨by decide, by decide, by decide +kernel⟩ rfl ⟨Nat.le_of_ble_eq_true rfl, Nat.le_of_ble_eq_true rfl⟩ (ci := 8) (SBH.rec hB) rfl hB hS hAo ⟨Nat.le_of_ble_eq_true rfl, Nat.le_of_ble_eq_true rfl⟩ hl.1 rfl (Nat.le_of_ble_eq_true rfl) dL_law_63) hS (fun q h8 => h8) (fun v' H locs hq' hz1 hk1 hS => ?_)
          obtain ⟨rfl, hB⟩ := hq'
          obtain ⟨π3, hπ3, hB⟩ : ∃ π3, π3 = sbChg π2 (oCmd π2.1 π2.2.2.2.2.1 6 (nI i2) ((nI i2) + 1) (nI i2)) ∧ SBH X cm o π3 H := ⟨_, rfl, hB⟩
          have hGπ3 : GI (5 + 5 * i2 + 3) π3 := by rw [hπ3]; exact hGπ2.chg (by omega) 6 _ _ _
          have hOπ3 := hGπ3.O
          have hPπ3 := hGπ3.P
          have hsπ3 : π3.2.1 = π2.2.1 ∧ π3.2.2.2.1 2 = π2.2.2.2.1 2 := by rw [hπ3]; exact chg_1.2
          refine lv_pop hx hb dL_law_66 rfl ?_
          refine lv_aload_n hx hb dL_law_67 rfl (lv_at hl 1 rfl) ?_
          refine lv_iload_n hx hb dL_law_68 rfl (lv_at hl 2 rfl) ?_
          refine lv_iconst (v := 4) hx hb dL_law_69 (by decide) ?_
          refine core_m (A1 := gA X) (grV (Bh := (SBH X cm o π3)) (n := 2) (As := [.int (nI i2), .int 4]) (rest := []) h0 hF (m_X9_sight h0 (cm := cm) (o := o) (σ := π3) hC hOπ3 hPπ3 (nI i2) 4) wm_L_35 wo_X9_sight ws_X9__X9_sight wz_X9 wc_X9_sight ⟨by decide, by decide, by decide +kernel⟩ rfl ⟨Nat.le_of_ble_eq_true rfl, Nat.le_of_ble_eq_true rfl⟩ (ci := 8) (SBH.rec hB) rfl hB hS hAo ⟨Nat.le_of_ble_eq_true rfl, Nat.le_of_ble_eq_true rfl⟩ hl.1 rfl (Nat.le_of_ble_eq_true rfl) dL_law_70) hS (fun q h8 => h8) (fun v' H locs hq' hz1 hk1 hS => ?_)
          obtain ⟨rfl, hB⟩ := hq'
          obtain ⟨π4, hπ4, hB⟩ : ∃ π4, π4 = sbChg π3 (oCmd π3.1 π3.2.2.2.2.1 3 (nI i2) 4 0) ∧ SBH X cm o π4 H := ⟨_, rfl, hB⟩
          have hGπ4 : GI (5 + 5 * i2 + 4) π4 := by rw [hπ4]; exact hGπ3.chg (by omega) 3 _ _ _
          have hOπ4 := hGπ4.O
          have hPπ4 := hGπ4.P
          have hsπ4 : π4.2.1 = π3.2.1 ∧ π4.2.2.2.1 2 = π3.2.2.2.1 2 := by rw [hπ4]; exact chg_1.2
          refine lv_pop hx hb dL_law_73 rfl ?_
          refine lv_aload_n hx hb dL_law_74 rfl (lv_at hl 1 rfl) ?_
          refine lv_iload_n hx hb dL_law_75 rfl (lv_at hl 2 rfl) ?_
          refine lv_iconst (v := 4) hx hb dL_law_76 (by decide) ?_
          refine lv_bipush (v := 9) hx hb dL_law_77 (by decide) ?_
          refine lv_iload_n hx hb dL_law_79 rfl (lv_at hl 2 rfl) ?_
          refine lv_isub hx hb dL_law_80 ?_
          refine core_m (A1 := gA X) (grV (Bh := (SBH X cm o π4)) (n := 3) (As := [.int (nI i2), .int 4, .int (9 - (nI i2))]) (rest := []) h0 hF (m_X9_wish h0 (cm := cm) (o := o) (σ := π4) hC hOπ4 hPπ4 (nI i2) 4 (9 - (nI i2))) wm_L_47 wo_X9_wish ws_X9__X9_wish wz_X9 wc_X9_wish ⟨by decide, by decide, by decide +kernel⟩ rfl ⟨Nat.le_of_ble_eq_true rfl, Nat.le_of_ble_eq_true rfl⟩ (ci := 8) (SBH.rec hB) rfl hB hS hAo ⟨Nat.le_of_ble_eq_true rfl, Nat.le_of_ble_eq_true rfl⟩ hl.1 rfl (Nat.le_of_ble_eq_true rfl) dL_law_81) hS (fun q h8 => h8) (fun v' H locs hq' hz1 hk1 hS => ?_)
          obtain ⟨rfl, hB⟩ := hq'
          obtain ⟨π5, hπ5, hB⟩ : ∃ π5, π5 = sbChg π4 (oCmd π4.1 π4.2.2.2.2.1 6 (nI i2) 4 (9 - (nI i2))) ∧ SBH X cm o π5 H := ⟨_, rfl, hB⟩
          have hGπ5 : GI (5 + 5 * i2 + 5) π5 := by rw [hπ5]; exact hGπ4.chg (by omega) 6 _ _ _
          have hOπ5 := hGπ5.O
          have hPπ5 := hGπ5.P
          have hsπ5 : π5.2.1 = π4.2.1 ∧ π5.2.2.2.1 2 = π4.2.2.2.1 2 := by rw [hπ5]; exact chg_1.2
          refine lv_pop hx hb dL_law_84 rfl ?_
          refine lv_iinc (v := nI (i2 + 1)) (lv' := [(2, .int (nI (i2 + 1))), (0, .ref X.b), (1, .ref o)]) hx hb dL_law_85 hl (k := 2) rfl (nI_1 i2) (by decide) rfl (fun ls hl => ?_)
          refine lv_goto (tgt := 34) hx hb dL_law_88 (by decide) ?_
          refine ih_34 (i2 + 1) (by omega) π5 ((hGπ5.mono (by omega) (by omega))) _ _ hB hS ls (lv_eqv (lv_sub (l' := [(0, .ref X.b), (1, .ref o), (2, .int (nI (i2 + 1)))]) hl [1, 2, 0] rfl) ?_)
          rfl
      exact key_34 (3) 0 (by omega) ρ (hGρ) _ _ hB hS ls (lv_sub hl [1, 2, 0] rfl)
    | succ nf ih_10 =>
      intro i1 hi1 ρ hx_i1 H locs hB hS ls hl
      have hi1_l : i1 < 5 := by omega
      have hGρ := hx_i1
      have hOρ := hGρ.O
      have hPρ := hGρ.P
      refine lv_iload_n hx hb dL_law_10 rfl (lv_at hl 2 rfl) ?_
      refine lv_iconst (v := 5) hx hb dL_law_11 (by decide) ?_
      refine lv_icmp_ge (tgt := 32) hx hb dL_law_12 (by decide) (fun c_12 => absurd c_12 (nI_ge (a := i1) (b := 5) (by omega) (by omega))) (fun c_12 => ?_)
      have n_12 := Int32.not_le.mp c_12
      refine lv_aload_n hx hb dL_law_15 rfl (lv_at hl 1 rfl) ?_
      refine lv_iconst (v := 3) hx hb dL_law_16 (by decide) ?_
      refine lv_iload_n hx hb dL_law_17 rfl (lv_at hl 2 rfl) ?_
      refine lv_iadd hx hb dL_law_18 ?_
      refine lv_iload_n hx hb dL_law_19 rfl (lv_at hl 2 rfl) ?_
      refine lv_iconst (v := 3) hx hb dL_law_20 (by decide) ?_
      refine lv_irem hx hb dL_law_21 (by decide) ?_
      refine core_m (A1 := gA X) (grV (Bh := (SBH X cm o ρ)) (n := 2) (As := [.int (3 + (nI i1)), .int ((nI i1) - (nI i1) / 3 * 3)]) (rest := []) h0 hF (m_X9_star h0 (cm := cm) (o := o) (σ := ρ) hC hOρ hPρ (3 + (nI i1)) ((nI i1) - (nI i1) / 3 * 3)) wm_L_24 wo_X9_star ws_X9__X9_star wz_X9 wc_X9_star ⟨by decide, by decide, by decide +kernel⟩ rfl ⟨Nat.le_of_ble_eq_true rfl, Nat.le_of_ble_eq_true rfl⟩ (ci := 8) (SBH.rec hB) rfl hB hS hAo ⟨Nat.le_of_ble_eq_true rfl, Nat.le_of_ble_eq_true rfl⟩ hl.1 rfl (Nat.le_of_ble_eq_true rfl) dL_law_22) hS (fun q h8 => h8) (fun v' H locs hq' hz1 hk1 hS => ?_)
      obtain ⟨rfl, hB⟩ := hq'
      obtain ⟨τ, hτ, hB⟩ : ∃ τ, τ = sbChg ρ (oCmd ρ.1 ρ.2.2.2.2.1 0 (3 + (nI i1)) ((nI i1) - (nI i1) / 3 * 3) 0) ∧ SBH X cm o τ H := ⟨_, rfl, hB⟩
      have hGτ : GI (i1 + 1) τ := by rw [hτ]; exact hGρ.chg (by omega) 0 _ _ _
      have hOτ := hGτ.O
      have hPτ := hGτ.P
      have hsτ : τ.2.1 = ρ.2.1 ∧ τ.2.2.2.1 2 = ρ.2.2.2.1 2 := by rw [hτ]; exact chg_1.2
      refine lv_pop hx hb dL_law_25 rfl ?_
      refine lv_iinc (v := nI (i1 + 1)) (lv' := [(2, .int (nI (i1 + 1))), (0, .ref X.b), (1, .ref o)]) hx hb dL_law_26 hl (k := 2) rfl (nI_1 i1) (by decide) rfl (fun ls hl => ?_)
      refine lv_goto (tgt := 10) hx hb dL_law_29 (by decide) ?_
      refine ih_10 (i1 + 1) (by omega) τ (hGτ) _ _ hB hS ls (lv_eqv (lv_sub (l' := [(0, .ref X.b), (1, .ref o), (2, .int (nI (i1 + 1)))]) hl [1, 2, 0] rfl) ?_)
      rfl
  exact key_10 (5) 0 (by omega) σ (hGσ) _ _ hB hS ls (lv_sub hl [2, 1, 0] rfl)
