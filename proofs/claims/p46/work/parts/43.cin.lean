set_option maxHeartbeats 4000000 in
set_option maxRecDepth 100000 in
theorem m_X2_noted {X : Cx} {l : Launch} (h0 : Init X) {σ : Sb} {ow : Nat → Nat} {f : Nat → Nat → Nat} {g : Nat → Nat} (hn : σ.2.2.2.1 1 < 9) : PM X l yX2_noted cX2_noted 1 (some (.object "StarBailiff$Sky")) 0 0 [.ref (g 0)] (Tw X ow 21 (paW X f g σ)) (.ref (f (2 + (σ.2.2.2.1 1)) 0)) := by
  refine Met.mk (Bh := (Tw X ow 21 (paW X f g σ))) (by decide) (Nat.le_of_ble_eq_true rfl) ?_
  intro p e s m below meth c ls hF hB hl
  have hpa := hB
  have hl : lv_has ls 1 [(0, .ref (g 0))] := hl
  obtain ⟨hx, hb, hml, hr, hlk, hown, hG⟩ := id hF
  have hK := hG.K h0
  have hS : va_S noA s.heap s.heap [] := va_S.rf
  refine lv_aload_n hx hb dX2_noted_0 rfl (lv_at hl 0 rfl) ?_
  refine g_get (ci := 1) (v := .ref (g 5)) h0 hF inX2 hpa.1 0 rfl rfl 2 (by decide) wf_X2_11 rfl rfl dX2_noted_1 ?_
  refine lv_aload_n hx hb dX2_noted_4 rfl (lv_at hl 0 rfl) ?_
  refine g_get (ci := 1) (v := .int (nI (σ.2.2.2.1 1))) h0 hF inX2 hpa.1 0 rfl rfl 1 (by decide) wf_X2_18 rfl rfl dX2_noted_5 ?_
  refine g_aald hx hb hK hpa.1 1 2 rfl rfl (σ.2.2.2.1 1) (rfl) (by omega) (by decide) dX2_noted_8 ?_
  exact pm_aret hF dX2_noted_9 (rfl)

theorem sbK_2 (σ : Sb) (n : Nat) : sbK σ (2 + n) = σ.2.2.1 n := by rw [Nat.add_comm 2]; rfl
theorem Prs_next {t : List Nat} {L : List Pc} (h : Prs t L) {j : Nat} {x : Pc} (hx : L[j]? = some x) : ∀ y, L[j + 1]? = some y → x.2.2.1 + 1 = y.1 := by
  intro y hy
  have h1 := h.2.2.2 (j + 1) y hy
  rw [h1]
  show x.2.2.1 + 1 = (L.getD j (0, 0, 0, 0, 0, 0)).2.2.1 + 1
  rw [List.getD_eq_getElem?_getD, hx]
  rfl

set_option maxHeartbeats 4000000 in
set_option maxRecDepth 100000 in
theorem m_X9_carryOutInput {X : Cx} {l : Launch} (h0 : Init X) {cm : Nat → Nat} {o : Nat} {σ : Sb} {qf : Nat → Nat} {sm tc : Nat} (hC : StC X cm sm) (hW : StW X cm qf tc) (hO : Ok σ.1) (hP : Okp σ) (hOO : ∀ (k : Sk) (E : Nat → Int32) (cd : Nat) (a b c : Int32), Ok k → Ok (oCmd k E cd a b c).2.1) {t : List Nat} {L : List Pc} (hPr : Prs t L) (ht60 : t.length ≤ 60) (ht1 : σ.2.2.2.1 3 = t.length) (ht2 : ∀ j, j < σ.2.2.2.1 3 → σ.2.2.2.2.2 j = t.getD j 0) : MM X l yX9_carryOutInput cX9_carryOutInput 5 (some .int) 7 161 0 0 [.ref o] (SBH X cm o σ) (fun v H => v = some (.int (cinR σ L).1) ∧ SBH X cm o (cinR σ L).2 H) (gA X) := by
  refine Met.mk (Bh := (SBH X cm o σ)) (by decide) (Nat.le_of_ble_eq_true rfl) ?_
  intro p e s m below meth c ls hF hB hl
  obtain ⟨ow, f, g, hsb⟩ := hB
  obtain ⟨hz, hob, hsk, hpa, hre, ⟨cw, ew, nu, hcw, hwo⟩, hin, -, hi60⟩ := id hsb
  have hs0 := hsk 0 (by decide)
  have hit0 := hin.txt ht1 ht2
  have hl : lv_has ls 5 [(0, .ref o)] := hl
  obtain ⟨hx, hb, hml, hr, hlk, hown, hG⟩ := id hF
  have hK := hG.K h0
  have hS : va_S (gA X) s.heap s.heap [] := va_S.rf
  have hAo : ∀ q, q < X.z → ¬ gA X q := fun q h9 (h8 : X.z ≤ q) => absurd h8 (by omega)
  have hP2 := hP.2
  have hL100 := hPr.2.1
  refine lv_aload_n hx hb dX9_carryOutInput_0 rfl (lv_at hl 0 rfl) ?_
  refine g_get (ci := 8) (v := .ref (g 2)) h0 hF inX9 hob.1 0 rfl rfl 4 (by decide) wf_X9_36 rfl rfl dX9_carryOutInput_1 ?_
  refine lv_aload_n hx hb dX9_carryOutInput_4 rfl (lv_at hl 0 rfl) ?_
  refine g_get (ci := 8) (v := .ref (g 3)) h0 hF inX9 hob.1 0 rfl rfl 5 (by decide) wf_X9_43 rfl rfl dX9_carryOutInput_5 ?_
  refine core_m (A1 := fun q => ow q = 23) (grV (Bh := (fun H => Tw X ow 23 (woW X g (cm cw) ew nu) H ∧ bfH X ow 24 (g 3) t.length (fun j => t.getD j 0) H)) (n := 1) (As := [.ref (g 3)]) (rest := []) h0 hF (m_X8_countCommands h0 (cm := cm) (qf := qf) (tc := tc) hW (ow := ow) (g := g) (cw := cw) hcw (e0 := ew) (nu := nu) (t := t) ht60 (fun q h => hz q (by omega))) wm_X9_393 wo_X8_countCommands ws_X8__X8_countCommands wz_X8 wc_X8_countCommands ⟨by decide, by decide, by decide +kernel⟩ rfl ⟨Nat.le_of_ble_eq_true rfl, Nat.le_of_ble_eq_true rfl⟩ (ci := 7) ⟨_, hwo.1 0 _ rfl⟩ rfl ⟨hwo, hit0⟩ hS hAo ⟨Nat.le_of_ble_eq_true rfl, Nat.le_of_ble_eq_true rfl⟩ hl.1 rfl (Nat.le_of_ble_eq_true rfl) dX9_carryOutInput_8) hS (fun q (h8 : ow q = 23) => (show X.z ≤ q from hz q (by omega))) (fun v' H locs hq' hz1 hk1 hS => ?_)
  obtain ⟨rfl, ⟨cw, hcw, hwo⟩, -⟩ := hq'
  have hsb := hsb.wo hk1 hcw hwo
  obtain ⟨hz, hob, hsk, hpa, hre, -, hin, -, hi60⟩ := id hsb
  have hs0 := hsk 0 (by decide)
  have hit0 := hin.txt ht1 ht2
  refine lv_topE (y := nI L.length) (hPr.1 _ _) ?_
  refine lv_istore_n (lv' := [(1, .int (nI L.length)), (0, .ref o)]) hx hb dX9_carryOutInput_11 rfl hl (by decide) rfl (fun ls hl => ?_)
  refine lv_iload_n hx hb dX9_carryOutInput_12 rfl (lv_at hl 0 rfl) ?_
  refine lv_if_ge (tgt := 30) hx hb dX9_carryOutInput_13 (by decide) (fun c_13 => ?_) (fun c_13 => absurd (nI_pos' (by omega)) c_13)
  have n_13 := Int32.not_lt.mpr c_13
  refine lv_aload_n hx hb dX9_carryOutInput_30 rfl (lv_at hl 1 rfl) ?_
  refine g_get (ci := 8) (v := .ref (g 0)) h0 hF inX9 hob.1 0 rfl rfl 2 (by decide) wf_X9_22 rfl rfl dX9_carryOutInput_31 ?_
  refine lv_aload_n hx hb dX9_carryOutInput_34 rfl (lv_at hl 1 rfl) ?_
  refine g_get (ci := 8) (v := .ref (f 0 0)) h0 hF inX9 hob.1 0 rfl rfl 0 (by decide) wf_X9_12 rfl rfl dX9_carryOutInput_35 ?_
  refine core_m (A1 := fun q => X.z ≤ q) (grV (n := 1) (As := [.ref (f 0 0)]) (rest := []) h0 hF (m_X2_note h0 (o := o) (cm := cm) (σ := σ) (ow := ow) (f := f) (g := g) hP) wm_X9_337 wo_X2_note ws_X2__X2_note wz_X2 wc_X2_note ⟨by decide, by decide, by decide +kernel⟩ rfl ⟨Nat.le_of_ble_eq_true rfl, Nat.le_of_ble_eq_true rfl⟩ (ci := 1) ⟨_, hpa.1 0 _ rfl⟩ rfl hsb hS hAo ⟨Nat.le_of_ble_eq_true rfl, Nat.le_of_ble_eq_true rfl⟩ hl.1 rfl (Nat.le_of_ble_eq_true rfl) dX9_carryOutInput_38) hS (fun q h8 => h8) (fun v' H locs hq' hz1 hk1 hS => ?_)
  obtain ⟨rfl, hsb⟩ := hq'
  have hL : SBH X cm o (tauS σ σ.1 σ.2.2.2.2.1) H := ⟨ow, f, g, hsb⟩
  refine lv_iconst (v := 0) hx hb dX9_carryOutInput_41 (by decide) ?_
  refine lv_istore_n (lv' := [(2, .int 0), (1, .int (nI L.length)), (0, .ref o)]) hx hb dX9_carryOutInput_42 rfl hl (by decide) rfl (fun ls hl => ?_)
  refine lv_iconst (v := 0) hx hb dX9_carryOutInput_43 (by decide) ?_
  refine lv_istore_n (lv' := [(3, .int 0), (2, .int 0), (1, .int (nI L.length)), (0, .ref o)]) hx hb dX9_carryOutInput_44 rfl hl (by decide) rfl (fun ls hl => ?_)
  have key_45 : ∀ (nf j : Nat), j + nf = L.length → ∀ (p0 : Nat) (kk : Sk) (EE : Nat → Int32), (runL (L.drop j) j kk EE = runL L 0 σ.1 σ.2.2.2.2.1 ∧ Ok kk ∧ ∀ y, L[j]? = some y → p0 = y.1) → ∀ (H : Heap) (locs : List Loc), SBH X cm o (tauS σ kk EE) H → va_S (gA X) s.heap H locs → ∀ (ls : Array Slot), lv_has ls 5 [(0, .ref o), (1, .int (nI L.length)), (2, .int (nI p0)), (3, .int (nI j))] → W p l e ({ frames := 7, cells := 0, slots := 0, locals := 161 } : Room) s m ([.ref o] : List Value).toArray below meth c H locs 0 0 (MQ below (qM (fun v H => v = some (.int (cinR σ L).1) ∧ SBH X cm o (cinR σ L).2 H) (gA X)) ([.ref o] : List Value).toArray s 0 0 (gA X)) (F0 m 45 ls []) := by
    intro nf
    induction nf with
    | zero =>
      intro j hj p0 kk EE hx_j H locs hL hS ls hl
      have hj_e : j = L.length := by omega
      obtain ⟨ow, f, g, hsb⟩ := hL
      obtain ⟨hz, hob, hsk, hpa, hre, ⟨cw, ew, nu, hcw, hwo⟩, hin, -, hi60⟩ := id hsb
      have hs0 := hsk 0 (by decide)
      have hit0 := hin.txt ht1 ht2
      refine lv_iload_n hx hb dX9_carryOutInput_45 rfl (lv_at hl 3 rfl) ?_
      refine lv_iload_n hx hb dX9_carryOutInput_46 rfl (lv_at hl 1 rfl) ?_
      refine lv_icmp_ge (tgt := 149) hx hb dX9_carryOutInput_47 (by decide) (fun c_47 => ?_) (fun c_47 => absurd (nI_le (a := L.length) (b := j) (by omega) (by omega)) c_47)
      have n_47 := Int32.not_lt.mpr c_47
      refine lv_aload_n hx hb dX9_carryOutInput_149 rfl (lv_at hl 0 rfl) ?_
      refine g_get (ci := 8) (v := .ref (g 0)) h0 hF inX9 hob.1 0 rfl rfl 2 (by decide) wf_X9_22 rfl rfl dX9_carryOutInput_150 ?_
      refine core_m (A1 := fun q => ow q = 21) (grV (n := 0) (As := []) (rest := []) h0 hF (m_X2_keepNoted h0 (σ := tauS σ kk EE) (ow := ow) (f := f) (g := g) hP) wm_X9_343 wo_X2_keepNoted ws_X2__X2_keepNoted wz_X2 wc_X2_keepNoted ⟨by decide, by decide, by decide +kernel⟩ rfl ⟨Nat.le_of_ble_eq_true rfl, Nat.le_of_ble_eq_true rfl⟩ (ci := 1) ⟨_, hpa.1 0 _ rfl⟩ rfl hpa hS hAo ⟨Nat.le_of_ble_eq_true rfl, Nat.le_of_ble_eq_true rfl⟩ hl.1 rfl (Nat.le_of_ble_eq_true rfl) dX9_carryOutInput_153) hS (fun q (h8 : ow q = 21) => (show X.z ≤ q from hz q (by omega))) (fun v' H locs hq' hz1 hk1 hS => ?_)
      obtain ⟨rfl, hpa⟩ := hq'
      have hsb := hsb.pa (σ' := sbKeep (tauS σ kk EE)) hk1 hpa rfl rfl rfl rfl rfl rfl
      refine lv_iload_n hx hb dX9_carryOutInput_156 rfl (lv_at hl 1 rfl) ?_
      exact mm_iret hF hS dX9_carryOutInput_157 (by have hR := hx_j.1; rw [hj_e, List.drop_length] at hR; unfold cinR; rw [← hR]; exact ⟨rfl, ow, f, g, hsb⟩)
    | succ nf ih_45 =>
      intro j hj p0 kk EE hx_j H locs hL hS ls hl
      have hj_l : j < L.length := by omega
      obtain ⟨ow, f, g, hsb⟩ := hL
      obtain ⟨hz, hob, hsk, hpa, hre, ⟨cw, ew, nu, hcw, hwo⟩, hin, -, hi60⟩ := id hsb
      have hs0 := hsk 0 (by decide)
      have hit0 := hin.txt ht1 ht2
      obtain ⟨x, hLx⟩ : ∃ x, L[j]? = some x := ⟨_, List.getElem?_eq_getElem hj_l⟩
      have hPx := hPr.2.2.1 j x hLx
      obtain rfl : p0 = x.1 := hx_j.2.2 x hLx
      refine lv_iload_n hx hb dX9_carryOutInput_45 rfl (lv_at hl 3 rfl) ?_
      refine lv_iload_n hx hb dX9_carryOutInput_46 rfl (lv_at hl 1 rfl) ?_
      refine lv_icmp_ge (tgt := 149) hx hb dX9_carryOutInput_47 (by decide) (fun c_47 => absurd c_47 (nI_ge (a := j) (b := L.length) (by omega) (by omega))) (fun c_47 => ?_)
      have n_47 := Int32.not_le.mp c_47
      refine lv_aload_n hx hb dX9_carryOutInput_50 rfl (lv_at hl 0 rfl) ?_
      refine g_get (ci := 8) (v := .ref (g 2)) h0 hF inX9 hob.1 0 rfl rfl 4 (by decide) wf_X9_36 rfl rfl dX9_carryOutInput_51 ?_
      refine lv_aload_n hx hb dX9_carryOutInput_54 rfl (lv_at hl 0 rfl) ?_
      refine g_get (ci := 8) (v := .ref (g 3)) h0 hF inX9 hob.1 0 rfl rfl 5 (by decide) wf_X9_43 rfl rfl dX9_carryOutInput_55 ?_
      refine lv_iload_n hx hb dX9_carryOutInput_58 rfl (lv_at hl 2 rfl) ?_
      refine core_m (A1 := fun q => ow q = 23) (grV (Bh := (fun H => Tw X ow 23 (woW X g (cm cw) ew nu) H ∧ bfH X ow 24 (g 3) t.length (fun j => t.getD j 0) H)) (n := 2) (As := [.ref (g 3), .int (nI x.1)]) (rest := []) h0 hF (m_X8_findCommand h0 (cm := cm) (qf := qf) (tc := tc) hW (ow := ow) (g := g) (cmd := cm cw) (p1 := x.1) (e0 := ew) (nu := nu) (t := t) ht60 hPx.1 (fun q h => hz q (by omega))) wm_X9_400 wo_X8_findCommand ws_X8__X8_findCommand wz_X8 wc_X8_findCommand ⟨by decide, by decide, by decide +kernel⟩ rfl ⟨Nat.le_of_ble_eq_true rfl, Nat.le_of_ble_eq_true rfl⟩ (ci := 7) ⟨_, hwo.1 0 _ rfl⟩ rfl ⟨hwo, hit0⟩ hS hAo ⟨Nat.le_of_ble_eq_true rfl, Nat.le_of_ble_eq_true rfl⟩ hl.1 rfl (Nat.le_of_ble_eq_true rfl) dX9_carryOutInput_59) hS (fun q (h8 : ow q = 23) => (show X.z ≤ q from hz q (by omega))) (fun v' H locs hq' hz1 hk1 hS => ?_)
      obtain ⟨rfl, hwo, -⟩ := hq'
      have hF1 := hPx.2.2.2.1 nu
      have hle := fc_le hPx.1 _ _ _ _ _ hF1
      rw [fcC_some hF1, hle.2.2] at hwo
      have hsb := hsb.wo hk1 hPx.2.1 hwo
      obtain ⟨hz, hob, hsk, hpa, hre, -, hin, -, hi60⟩ := id hsb
      have hs0 := hsk 0 (by decide)
      have hit0 := hin.txt ht1 ht2
      refine lv_pop hx hb dX9_carryOutInput_62 rfl ?_
      refine lv_aload_n hx hb dX9_carryOutInput_63 rfl (lv_at hl 0 rfl) ?_
      refine lv_aload_n hx hb dX9_carryOutInput_64 rfl (lv_at hl 0 rfl) ?_
      refine g_get (ci := 8) (v := .ref (g 2)) h0 hF inX9 hob.1 0 rfl rfl 4 (by decide) wf_X9_36 rfl rfl dX9_carryOutInput_65 ?_
      refine g_get (ci := 7) (v := .ref (cm x.2.1)) h0 hF inX8 hwo.1 0 rfl rfl 0 (by decide) wf_X9_404 rfl rfl dX9_carryOutInput_68 ?_
      refine lv_aload_n hx hb dX9_carryOutInput_71 rfl (lv_at hl 0 rfl) ?_
      refine g_get (ci := 8) (v := .ref (g 2)) h0 hF inX9 hob.1 0 rfl rfl 4 (by decide) wf_X9_36 rfl rfl dX9_carryOutInput_72 ?_
      refine g_get (ci := 7) (v := .ref (g 6)) h0 hF inX8 hwo.1 0 rfl rfl 2 (by decide) wf_X9_407 rfl rfl dX9_carryOutInput_75 ?_
      refine lv_iconst (v := 0) hx hb dX9_carryOutInput_78 (by decide) ?_
      refine g_iald hx hb hK hwo.1 1 0 rfl rfl 0 (rfl) (by omega) (by decide) dX9_carryOutInput_79 ?_
      refine lv_aload_n hx hb dX9_carryOutInput_80 rfl (lv_at hl 0 rfl) ?_
      refine g_get (ci := 8) (v := .ref (g 2)) h0 hF inX9 hob.1 0 rfl rfl 4 (by decide) wf_X9_36 rfl rfl dX9_carryOutInput_81 ?_
      refine g_get (ci := 7) (v := .ref (g 6)) h0 hF inX8 hwo.1 0 rfl rfl 2 (by decide) wf_X9_407 rfl rfl dX9_carryOutInput_84 ?_
      refine lv_iconst (v := 1) hx hb dX9_carryOutInput_87 (by decide) ?_
      refine g_iald hx hb hK hwo.1 1 0 rfl rfl 1 (rfl) (by omega) (by decide) dX9_carryOutInput_88 ?_
      refine lv_aload_n hx hb dX9_carryOutInput_89 rfl (lv_at hl 0 rfl) ?_
      refine g_get (ci := 8) (v := .ref (g 2)) h0 hF inX9 hob.1 0 rfl rfl 4 (by decide) wf_X9_36 rfl rfl dX9_carryOutInput_90 ?_
      refine g_get (ci := 7) (v := .ref (g 6)) h0 hF inX8 hwo.1 0 rfl rfl 2 (by decide) wf_X9_407 rfl rfl dX9_carryOutInput_93 ?_
      refine lv_iconst (v := 2) hx hb dX9_carryOutInput_96 (by decide) ?_
      refine g_iald hx hb hK hwo.1 1 0 rfl rfl 2 (rfl) (by omega) (by decide) dX9_carryOutInput_97 ?_
      refine core_m (A1 := fun q => ow q = 0 ∨ ow q = 22) (grV (n := 4) (As := [.ref (cm x.2.1), .int ((fcR t x.1 formL 0 (nI x.1) nu).2.2 0), .int ((fcR t x.1 formL 0 (nI x.1) nu).2.2 1), .int ((fcR t x.1 formL 0 (nI x.1) nu).2.2 2)]) (rest := []) h0 hF (m_X9_carryOut h0 (cm := cm) (o := o) (σ := (tauS σ kk EE)) (ow := ow) (f := f) (g := g) hC hx_j.2.1 x.2.1 hPx.2.1 ((fcR t x.1 formL 0 (nI x.1) nu).2.2 0) ((fcR t x.1 formL 0 (nI x.1) nu).2.2 1) ((fcR t x.1 formL 0 (nI x.1) nu).2.2 2)) wm_X9_340 wo_X9_carryOut ws_X9__X9_carryOut wz_X9 wc_X9_carryOut ⟨by decide, by decide, by decide +kernel⟩ rfl ⟨Nat.le_of_ble_eq_true rfl, Nat.le_of_ble_eq_true rfl⟩ (ci := 8) ⟨_, hob.1 0 _ rfl⟩ rfl hsb hS hAo ⟨Nat.le_of_ble_eq_true rfl, Nat.le_of_ble_eq_true rfl⟩ hl.1 rfl (Nat.le_of_ble_eq_true rfl) dX9_carryOutInput_98) hS (fun q (h8 : ow q = 0 ∨ ow q = 22) => (show X.z ≤ q from hz q (by omega))) (fun v' H locs hq' hz1 hk1 hS => ?_)
      obtain ⟨rfl, hsb⟩ := hq'
      rw [show oCmd (tauS σ kk EE).1 (tauS σ kk EE).2.2.2.2.1 x.2.1 ((fcR t x.1 formL 0 (nI x.1) nu).2.2 0) ((fcR t x.1 formL 0 (nI x.1) nu).2.2 1) ((fcR t x.1 formL 0 (nI x.1) nu).2.2 2) = (oCmd kk EE x.2.1 x.2.2.2.1 x.2.2.2.2.1 x.2.2.2.2.2) from hPx.2.2.2.2 nu kk EE] at hsb ⊢
      have hwo := hwo.keep hk1 (fun q h9 (h8 : ow q = 0 ∨ ow q = 22) => by omega)
      obtain ⟨hz, hob, hsk, hpa, hre, -, hin, -, hi60⟩ := id hsb
      have hs0 := hsk 0 (by decide)
      have hit0 := hin.txt ht1 ht2
      have hsn : Tw X ow (2 + (σ.2.2.2.1 1)) (skW X (f (2 + (σ.2.2.2.1 1))) ((tauS σ kk EE).2.2.1 (σ.2.2.2.1 1))) H := by have := hsk (2 + (σ.2.2.2.1 1)) (by omega); rw [sbK_2] at this; exact this
      refine lv_istore (lv' := [(4, .int ((oCmd kk EE x.2.1 x.2.2.2.1 x.2.2.2.2.1 x.2.2.2.2.2).1)), (0, .ref o), (1, .int (nI L.length)), (2, .int (nI x.1)), (3, .int (nI j))]) hx hb dX9_carryOutInput_101 hl (by decide) rfl (fun ls hl => ?_)
      refine lv_iload hx hb dX9_carryOutInput_103 (lv_at hl 0 rfl) ?_
      refine lv_if_ge (tgt := 133) hx hb dX9_carryOutInput_105 (by decide) (fun c_105 => ?_) (fun c_105 => ?_)
      · have n_105 := Int32.not_lt.mpr c_105
        have c_105neg : ¬ (oCmd kk EE x.2.1 x.2.2.2.1 x.2.2.2.2.1 x.2.2.2.2.2).1 < 0 := Int32.not_lt.mpr c_105
        refine lv_aload_n hx hb dX9_carryOutInput_133 rfl (lv_at hl 1 rfl) ?_
        refine g_get (ci := 8) (v := .ref (g 2)) h0 hF inX9 hob.1 0 rfl rfl 4 (by decide) wf_X9_36 rfl rfl dX9_carryOutInput_134 ?_
        refine g_get (ci := 7) (v := .int (nI x.2.2.1)) h0 hF inX8 hwo.1 0 rfl rfl 1 (by decide) wf_X9_397 rfl rfl dX9_carryOutInput_137 ?_
        refine lv_iconst (v := 1) hx hb dX9_carryOutInput_140 (by decide) ?_
        refine lv_iadd hx hb dX9_carryOutInput_141 ?_
        refine lv_topE (y := nI (x.2.2.1 + 1)) (nI_1 _) ?_
        refine lv_istore_n (lv' := [(2, .int (nI (x.2.2.1 + 1))), (4, .int ((oCmd kk EE x.2.1 x.2.2.2.1 x.2.2.2.2.1 x.2.2.2.2.2).1)), (0, .ref o), (1, .int (nI L.length)), (3, .int (nI j))]) hx hb dX9_carryOutInput_142 rfl hl (by decide) rfl (fun ls hl => ?_)
        have hL : SBH X cm o (tauS σ ((oCmd kk EE x.2.1 x.2.2.2.1 x.2.2.2.2.1 x.2.2.2.2.2).2.1) (pE EE (oCmd kk EE x.2.1 x.2.2.2.1 x.2.2.2.2.1 x.2.2.2.2.2).2.2)) H := ⟨ow, f, g, hsb⟩
        refine lv_iinc (v := nI (j + 1)) (lv' := [(3, .int (nI (j + 1))), (2, .int (nI (x.2.2.1 + 1))), (4, .int ((oCmd kk EE x.2.1 x.2.2.2.1 x.2.2.2.2.1 x.2.2.2.2.2).1)), (0, .ref o), (1, .int (nI L.length))]) hx hb dX9_carryOutInput_143 hl (k := 4) rfl (nI_1 j) (by decide) rfl (fun ls hl => ?_)
        refine lv_goto (tgt := 45) hx hb dX9_carryOutInput_146 (by decide) ?_
        refine ih_45 (j + 1) (by omega) (x.2.2.1 + 1) ((oCmd kk EE x.2.1 x.2.2.2.1 x.2.2.2.2.1 x.2.2.2.2.2).2.1) (pE EE (oCmd kk EE x.2.1 x.2.2.2.1 x.2.2.2.2.1 x.2.2.2.2.2).2.2) (⟨by rw [← hx_j.1, runL_drop hLx, if_neg c_105neg], hOO _ _ _ _ _ _ hx_j.2.1, Prs_next hPr hLx⟩) _ _ hL hS ls (lv_eqv (lv_sub (l' := [(0, .ref o), (1, .int (nI L.length)), (2, .int (nI (x.2.2.1 + 1))), (3, .int (nI (j + 1)))]) hl [3, 4, 1, 0] rfl) ?_)
        rfl
      · have n_105 := Int32.not_le.mp c_105
        refine lv_aload_n hx hb dX9_carryOutInput_108 rfl (lv_at hl 1 rfl) ?_
        refine g_get (ci := 8) (v := .ref (f 0 0)) h0 hF inX9 hob.1 0 rfl rfl 0 (by decide) wf_X9_12 rfl rfl dX9_carryOutInput_109 ?_
        refine lv_aload_n hx hb dX9_carryOutInput_112 rfl (lv_at hl 1 rfl) ?_
        refine g_get (ci := 8) (v := .ref (g 0)) h0 hF inX9 hob.1 0 rfl rfl 2 (by decide) wf_X9_22 rfl rfl dX9_carryOutInput_113 ?_
        refine core_p (v := .ref (f (2 + (σ.2.2.2.1 1)) 0)) (grV (n := 0) (As := []) (rest := [.ref (f 0 0)]) h0 hF (m_X2_noted h0 (σ := (sbOp (tauS σ kk EE) (oCmd kk EE x.2.1 x.2.2.2.1 x.2.2.2.2.1 x.2.2.2.2.2))) (ow := ow) (f := f) (g := g) hP.2) wm_X9_410 wo_X2_noted ws_X2__X2_noted wz_X2 wc_X2_noted ⟨by decide, by decide, by decide +kernel⟩ rfl ⟨Nat.le_of_ble_eq_true rfl, Nat.le_of_ble_eq_true rfl⟩ (ci := 1) ⟨_, hpa.1 0 _ rfl⟩ rfl hpa hS hAo ⟨Nat.le_of_ble_eq_true rfl, Nat.le_of_ble_eq_true rfl⟩ hl.1 rfl (Nat.le_of_ble_eq_true rfl) dX9_carryOutInput_116) ?_
        refine core_m (A1 := fun q => ow q = 0 ∨ ow q = 2 + (σ.2.2.2.1 1)) (grV (Bh := (fun H => Tw X ow 0 (skW X (f 0) ((oCmd kk EE x.2.1 x.2.2.2.1 x.2.2.2.2.1 x.2.2.2.2.2).2.1)) H ∧ Tw X ow (2 + (σ.2.2.2.1 1)) (skW X (f (2 + (σ.2.2.2.1 1))) ((tauS σ kk EE).2.2.1 (σ.2.2.2.1 1))) H)) (n := 1) (As := [.ref (f (2 + (σ.2.2.2.1 1)) 0)]) (rest := []) h0 hF (m_X5_copyFrom h0 (ow := ow) (t := 0) (u := 2 + (σ.2.2.2.1 1)) (f := f 0) (g := f (2 + (σ.2.2.2.1 1))) (k := (oCmd kk EE x.2.1 x.2.2.2.1 x.2.2.2.2.1 x.2.2.2.2.2).2.1) (q := ((tauS σ kk EE).2.2.1 (σ.2.2.2.1 1))) (by omega) (fun q h9 => hz q (by omega))) wm_X9_329 wo_X5_copyFrom ws_X5__X5_copyFrom wz_X5 wc_X5_copyFrom ⟨by decide, by decide, by decide +kernel⟩ rfl ⟨Nat.le_of_ble_eq_true rfl, Nat.le_of_ble_eq_true rfl⟩ (ci := 4) ⟨_, hs0.1 0 _ rfl⟩ rfl ⟨hs0, hsn⟩ hS hAo ⟨Nat.le_of_ble_eq_true rfl, Nat.le_of_ble_eq_true rfl⟩ hl.1 rfl (Nat.le_of_ble_eq_true rfl) dX9_carryOutInput_119) hS (fun q (h8 : ow q = 0 ∨ ow q = 2 + (σ.2.2.2.1 1)) => (show X.z ≤ q from hz q (by omega))) (fun v' H locs hq' hz1 hk1 hS => ?_)
        obtain ⟨rfl, hs0, hsn⟩ := hq'
        have hsb := hsb.sky (a := 0) (b := 2 + (σ.2.2.2.1 1)) (q := ((tauS σ kk EE).2.2.1 (σ.2.2.2.1 1))) (by decide) (by omega) hk1 hs0 (by rw [sbK_2]; exact hsn)
        rw [show sbS (sbOp (tauS σ kk EE) (oCmd kk EE x.2.1 x.2.2.2.1 x.2.2.2.2.1 x.2.2.2.2.2)) 0 ((tauS σ kk EE).2.2.1 (σ.2.2.2.1 1)) = tauS σ σ.1 (pE EE (oCmd kk EE x.2.1 x.2.2.2.1 x.2.2.2.2.1 x.2.2.2.2.2).2.2) from sbS_tau σ ((oCmd kk EE x.2.1 x.2.2.2.1 x.2.2.2.2.1 x.2.2.2.2.2).2.1) (pE EE (oCmd kk EE x.2.1 x.2.2.2.1 x.2.2.2.2.1 x.2.2.2.2.2).2.2)] at hsb
        obtain ⟨hz, hob, hsk, hpa, hre, -, hin, -, hi60⟩ := id hsb
        have hs0 := hsk 0 (by decide)
        have hit0 := hin.txt ht1 ht2
        refine lv_aload_n hx hb dX9_carryOutInput_122 rfl (lv_at hl 1 rfl) ?_
        refine g_get (ci := 8) (v := .ref (g 1)) h0 hF inX9 hob.1 0 rfl rfl 3 (by decide) wf_X9_29 rfl rfl dX9_carryOutInput_123 ?_
        refine lv_iload hx hb dX9_carryOutInput_126 (lv_at hl 0 rfl) ?_
        refine lv_iload_n hx hb dX9_carryOutInput_128 rfl (lv_at hl 4 rfl) ?_
        refine core_m (A1 := fun q => ow q = 22) (grV (n := 2) (As := [.int ((oCmd kk EE x.2.1 x.2.2.2.1 x.2.2.2.2.1 x.2.2.2.2.2).1), .int (nI j)]) (rest := []) h0 hF (m_X3_ofCommand h0 (ow := ow) (t := 22) (a := g 1) (E := (pE EE (oCmd kk EE x.2.1 x.2.2.2.1 x.2.2.2.2.1 x.2.2.2.2.2).2.2)) (fun q h => hz q (by omega)) ((oCmd kk EE x.2.1 x.2.2.2.1 x.2.2.2.2.1 x.2.2.2.2.2).1) (nI j)) wm_X9_414 wo_X3_ofCommand ws_X3__X3_ofCommand wz_X3 wc_X3_ofCommand ⟨by decide, by decide, by decide +kernel⟩ rfl ⟨Nat.le_of_ble_eq_true rfl, Nat.le_of_ble_eq_true rfl⟩ (ci := 2) ⟨_, hre.1 0 _ rfl⟩ rfl hre hS hAo ⟨Nat.le_of_ble_eq_true rfl, Nat.le_of_ble_eq_true rfl⟩ hl.1 rfl (Nat.le_of_ble_eq_true rfl) dX9_carryOutInput_129) hS (fun q (h8 : ow q = 22) => (show X.z ≤ q from hz q (by omega))) (fun v' H locs hq' hz1 hk1 hS => ?_)
        obtain ⟨rfl, hre⟩ := hq'
        have hs0 := hs0.keep hk1 (fun q h9 (h8 : ow q = 22) => by omega)
        have hsb := hsb.op (R := (0, σ.1, ofR (pE EE (oCmd kk EE x.2.1 x.2.2.2.1 x.2.2.2.2.1 x.2.2.2.2.2).2.2) (oCmd kk EE x.2.1 x.2.2.2.1 x.2.2.2.2.1 x.2.2.2.2.2).1 (nI j))) (fun q h1 h2 => hk1 q h1 (fun h3 => h2 (Or.inr h3))) hs0 hre
        exact mm_iret hF hS dX9_carryOutInput_132 (by have hR := hx_j.1; rw [runL_drop hLx, if_pos n_105] at hR; unfold cinR; rw [← hR]; exact ⟨rfl, ow, f, g, hsb⟩)
  exact key_45 (L.length) 0 (by omega) 0 σ.1 σ.2.2.2.2.1 (⟨rfl, hO, fun y hy => (hPr.2.2.2 0 y hy).symm⟩) _ _ hL hS ls (lv_sub hl [3, 2, 1, 0] rfl)
