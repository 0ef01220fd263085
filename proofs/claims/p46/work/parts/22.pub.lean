set_option maxHeartbeats 4000000 in
set_option maxRecDepth 100000 in
theorem m_X9_starOf_0 {X : Cx} {l : Launch} (h0 : Init X) {cm : Nat → Nat} {o : Nat} {σ : Sb} (hO : Ok σ.1)  (x : Int32) (i : Nat) (hxi : x = nI i) (hi : i < σ.1.2 0) : PM X l yX9_starOf cX9_starOf 3 (some .int) 1 21 [.ref o, .int x, .int 0] (SBH X cm o σ) (.int (starV σ.1 i 0)) := by
  subst hxi
  refine Met.mk (Bh := (SBH X cm o σ)) (by decide) (Nat.le_of_ble_eq_true rfl) ?_
  intro p e s m below meth c ls hF hB hl
  obtain ⟨ow, f, g, hz, hob, hsk, hpa, hre, ⟨cw, ew, nu, hcw, hwo⟩, hin, ⟨ln, lc, hln, hli⟩, hi60⟩ := hB
  have hs0 := hsk 0 (by decide)
  have hl : lv_has ls 3 [(0, .ref o), (1, .int (nI i)), (2, .int 0)] := hl
  obtain ⟨hx, hb, hml, hr, hlk, hown, hG⟩ := id hF
  have hK := hG.K h0
  have hS : va_S noA s.heap s.heap [] := va_S.rf
  have hO1 := hO.1
  have hO2 := hO.2.1
  have hO3 := hO.2.2.1
  refine lv_aload_n hx hb dX9_starOf_0 rfl (lv_at hl 0 rfl) ?_
  refine g_get (ci := 8) (v := .ref (f 0 0)) h0 hF inX9 hob.1 0 rfl rfl 0 (by decide) wf_X9_12 rfl rfl dX9_starOf_1 ?_
  refine g_get (ci := 4) (v := .ref (f 0 1)) h0 hF inX5 hs0.1 0 rfl rfl 0 (by decide) wf_X9_54 rfl rfl dX9_starOf_4 ?_
  refine lv_iload_n hx hb dX9_starOf_7 rfl (lv_at hl 1 rfl) ?_
  refine core_p (v := .int (bI (hasB (σ.1.2 0) (nI i)))) (grV (n := 1) (As := [.int (nI i)]) (rest := []) h0 hF (m_X6_has h0 (f := f 0) (k := σ.1) hO  (nI i)) wm_X9_135 wo_X6_has ws_X6__X6_has wz_X6 wc_X6_has ⟨by decide, by decide, by decide +kernel⟩ rfl ⟨Nat.le_of_ble_eq_true rfl, Nat.le_of_ble_eq_true rfl⟩ (ci := 5) ⟨_, hs0.1 1 _ rfl⟩ rfl hs0.1 hS noA_old ⟨Nat.zero_le _, Nat.zero_le _⟩ hl.1 rfl (Nat.le_of_ble_eq_true rfl) dX9_starOf_8) ?_
  refine lv_if_ne (tgt := 16) hx hb dX9_starOf_11 (by decide) (fun c_11 => ?_) (fun c_11 => absurd c_11 (bI_n0.mpr (hasB_nI (by omega) (by omega))))
  have n_11 := bI_n0.mp c_11
  refine lv_iload_n hx hb dX9_starOf_16 rfl (lv_at hl 2 rfl) ?_
  refine lv_tableIn (x := 0) (off := 39) (tgt := 56) hx hb dX9_starOf_17 (by decide) (by decide) (by decide) (by decide) ?_
  refine lv_aload_n hx hb dX9_starOf_56 rfl (lv_at hl 0 rfl) ?_
  refine g_get (ci := 8) (v := .ref (f 0 0)) h0 hF inX9 hob.1 0 rfl rfl 0 (by decide) wf_X9_12 rfl rfl dX9_starOf_57 ?_
  refine g_get (ci := 4) (v := .ref (f 0 1)) h0 hF inX5 hs0.1 0 rfl rfl 0 (by decide) wf_X9_54 rfl rfl dX9_starOf_60 ?_
  refine g_get (ci := 5) (v := .ref (f 0 4)) h0 hF inX6 hs0.1 1 rfl rfl 1 (by decide) wf_X9_139 rfl rfl dX9_starOf_63 ?_
  refine lv_iload_n hx hb dX9_starOf_66 rfl (lv_at hl 1 rfl) ?_
  refine g_iald hx hb hK hs0.1 4 0 rfl rfl i (rfl) (by omega) (by decide) dX9_starOf_67 ?_
  exact pm_iret hF dX9_starOf_68 (rfl)

set_option maxHeartbeats 4000000 in
set_option maxRecDepth 100000 in
theorem m_X9_starOf_1 {X : Cx} {l : Launch} (h0 : Init X) {cm : Nat → Nat} {o : Nat} {σ : Sb} (hO : Ok σ.1)  (x : Int32) (i : Nat) (hxi : x = nI i) (hi : i < σ.1.2 0) : PM X l yX9_starOf cX9_starOf 3 (some .int) 1 21 [.ref o, .int x, .int 1] (SBH X cm o σ) (.int (starV σ.1 i 1)) := by
  subst hxi
  refine Met.mk (Bh := (SBH X cm o σ)) (by decide) (Nat.le_of_ble_eq_true rfl) ?_
  intro p e s m below meth c ls hF hB hl
  obtain ⟨ow, f, g, hz, hob, hsk, hpa, hre, ⟨cw, ew, nu, hcw, hwo⟩, hin, ⟨ln, lc, hln, hli⟩, hi60⟩ := hB
  have hs0 := hsk 0 (by decide)
  have hl : lv_has ls 3 [(0, .ref o), (1, .int (nI i)), (2, .int 1)] := hl
  obtain ⟨hx, hb, hml, hr, hlk, hown, hG⟩ := id hF
  have hK := hG.K h0
  have hS : va_S noA s.heap s.heap [] := va_S.rf
  have hO1 := hO.1
  have hO2 := hO.2.1
  have hO3 := hO.2.2.1
  refine lv_aload_n hx hb dX9_starOf_0 rfl (lv_at hl 0 rfl) ?_
  refine g_get (ci := 8) (v := .ref (f 0 0)) h0 hF inX9 hob.1 0 rfl rfl 0 (by decide) wf_X9_12 rfl rfl dX9_starOf_1 ?_
  refine g_get (ci := 4) (v := .ref (f 0 1)) h0 hF inX5 hs0.1 0 rfl rfl 0 (by decide) wf_X9_54 rfl rfl dX9_starOf_4 ?_
  refine lv_iload_n hx hb dX9_starOf_7 rfl (lv_at hl 1 rfl) ?_
  refine core_p (v := .int (bI (hasB (σ.1.2 0) (nI i)))) (grV (n := 1) (As := [.int (nI i)]) (rest := []) h0 hF (m_X6_has h0 (f := f 0) (k := σ.1) hO  (nI i)) wm_X9_135 wo_X6_has ws_X6__X6_has wz_X6 wc_X6_has ⟨by decide, by decide, by decide +kernel⟩ rfl ⟨Nat.le_of_ble_eq_true rfl, Nat.le_of_ble_eq_true rfl⟩ (ci := 5) ⟨_, hs0.1 1 _ rfl⟩ rfl hs0.1 hS noA_old ⟨Nat.zero_le _, Nat.zero_le _⟩ hl.1 rfl (Nat.le_of_ble_eq_true rfl) dX9_starOf_8) ?_
  refine lv_if_ne (tgt := 16) hx hb dX9_starOf_11 (by decide) (fun c_11 => ?_) (fun c_11 => absurd c_11 (bI_n0.mpr (hasB_nI (by omega) (by omega))))
  have n_11 := bI_n0.mp c_11
  refine lv_iload_n hx hb dX9_starOf_16 rfl (lv_at hl 2 rfl) ?_
  refine lv_tableIn (x := 1) (off := 52) (tgt := 69) hx hb dX9_starOf_17 (by decide) (by decide) (by decide) (by decide) ?_
  refine lv_aload_n hx hb dX9_starOf_69 rfl (lv_at hl 0 rfl) ?_
  refine g_get (ci := 8) (v := .ref (f 0 0)) h0 hF inX9 hob.1 0 rfl rfl 0 (by decide) wf_X9_12 rfl rfl dX9_starOf_70 ?_
  refine g_get (ci := 4) (v := .ref (f 0 1)) h0 hF inX5 hs0.1 0 rfl rfl 0 (by decide) wf_X9_54 rfl rfl dX9_starOf_73 ?_
  refine g_get (ci := 5) (v := .ref (f 0 5)) h0 hF inX6 hs0.1 1 rfl rfl 2 (by decide) wf_X9_143 rfl rfl dX9_starOf_76 ?_
  refine lv_iload_n hx hb dX9_starOf_79 rfl (lv_at hl 1 rfl) ?_
  refine g_iald hx hb hK hs0.1 5 0 rfl rfl i (rfl) (by omega) (by decide) dX9_starOf_80 ?_
  exact pm_iret hF dX9_starOf_81 (rfl)

set_option maxHeartbeats 4000000 in
set_option maxRecDepth 100000 in
theorem m_X9_starOf_2 {X : Cx} {l : Launch} (h0 : Init X) {cm : Nat → Nat} {o : Nat} {σ : Sb} (hO : Ok σ.1)  (x : Int32) (i : Nat) (hxi : x = nI i) (hi : i < σ.1.2 0) : PM X l yX9_starOf cX9_starOf 3 (some .int) 1 21 [.ref o, .int x, .int 2] (SBH X cm o σ) (.int (starV σ.1 i 2)) := by
  subst hxi
  refine Met.mk (Bh := (SBH X cm o σ)) (by decide) (Nat.le_of_ble_eq_true rfl) ?_
  intro p e s m below meth c ls hF hB hl
  obtain ⟨ow, f, g, hz, hob, hsk, hpa, hre, ⟨cw, ew, nu, hcw, hwo⟩, hin, ⟨ln, lc, hln, hli⟩, hi60⟩ := hB
  have hs0 := hsk 0 (by decide)
  have hl : lv_has ls 3 [(0, .ref o), (1, .int (nI i)), (2, .int 2)] := hl
  obtain ⟨hx, hb, hml, hr, hlk, hown, hG⟩ := id hF
  have hK := hG.K h0
  have hS : va_S noA s.heap s.heap [] := va_S.rf
  have hO1 := hO.1
  have hO2 := hO.2.1
  have hO3 := hO.2.2.1
  refine lv_aload_n hx hb dX9_starOf_0 rfl (lv_at hl 0 rfl) ?_
  refine g_get (ci := 8) (v := .ref (f 0 0)) h0 hF inX9 hob.1 0 rfl rfl 0 (by decide) wf_X9_12 rfl rfl dX9_starOf_1 ?_
  refine g_get (ci := 4) (v := .ref (f 0 1)) h0 hF inX5 hs0.1 0 rfl rfl 0 (by decide) wf_X9_54 rfl rfl dX9_starOf_4 ?_
  refine lv_iload_n hx hb dX9_starOf_7 rfl (lv_at hl 1 rfl) ?_
  refine core_p (v := .int (bI (hasB (σ.1.2 0) (nI i)))) (grV (n := 1) (As := [.int (nI i)]) (rest := []) h0 hF (m_X6_has h0 (f := f 0) (k := σ.1) hO  (nI i)) wm_X9_135 wo_X6_has ws_X6__X6_has wz_X6 wc_X6_has ⟨by decide, by decide, by decide +kernel⟩ rfl ⟨Nat.le_of_ble_eq_true rfl, Nat.le_of_ble_eq_true rfl⟩ (ci := 5) ⟨_, hs0.1 1 _ rfl⟩ rfl hs0.1 hS noA_old ⟨Nat.zero_le _, Nat.zero_le _⟩ hl.1 rfl (Nat.le_of_ble_eq_true rfl) dX9_starOf_8) ?_
  refine lv_if_ne (tgt := 16) hx hb dX9_starOf_11 (by decide) (fun c_11 => ?_) (fun c_11 => absurd c_11 (bI_n0.mpr (hasB_nI (by omega) (by omega))))
  have n_11 := bI_n0.mp c_11
  refine lv_iload_n hx hb dX9_starOf_16 rfl (lv_at hl 2 rfl) ?_
  refine lv_tableIn (x := 2) (off := 65) (tgt := 82) hx hb dX9_starOf_17 (by decide) (by decide) (by decide) (by decide) ?_
  refine lv_aload_n hx hb dX9_starOf_82 rfl (lv_at hl 0 rfl) ?_
  refine g_get (ci := 8) (v := .ref (f 0 0)) h0 hF inX9 hob.1 0 rfl rfl 0 (by decide) wf_X9_12 rfl rfl dX9_starOf_83 ?_
  refine g_get (ci := 4) (v := .ref (f 0 1)) h0 hF inX5 hs0.1 0 rfl rfl 0 (by decide) wf_X9_54 rfl rfl dX9_starOf_86 ?_
  refine lv_iload_n hx hb dX9_starOf_89 rfl (lv_at hl 1 rfl) ?_
  refine core_p (v := .int (bI (isSeen σ.1 i))) (grV (n := 1) (As := [.int (nI i)]) (rest := []) h0 hF (m_X6_isSeen h0 (f := f 0) (k := σ.1) hO  (nI i) i rfl (by omega)) wm_X9_146 wo_X6_isSeen ws_X6__X6_isSeen wz_X6 wc_X6_isSeen ⟨by decide, by decide, by decide +kernel⟩ rfl ⟨Nat.le_of_ble_eq_true rfl, Nat.le_of_ble_eq_true rfl⟩ (ci := 5) ⟨_, hs0.1 1 _ rfl⟩ rfl hs0.1 hS noA_old ⟨Nat.zero_le _, Nat.zero_le _⟩ hl.1 rfl (Nat.le_of_ble_eq_true rfl) dX9_starOf_90) ?_
  refine lv_if_eq (tgt := 100) hx hb dX9_starOf_93 (by decide) (fun c_93 => ?_) (fun c_93 => ?_)
  · have n_93 := bI_0.mp c_93
    refine lv_iconst (v := 0) hx hb dX9_starOf_100 (by decide) ?_
    exact pm_iret hF dX9_starOf_101 (by simp [starV, bI, n_11, n_93])
  · have n_93 := bI_n0.mp c_93
    refine lv_iconst (v := 1) hx hb dX9_starOf_96 (by decide) ?_
    refine lv_goto (tgt := 101) hx hb dX9_starOf_97 (by decide) ?_
    exact pm_iret hF dX9_starOf_101 (by simp [starV, bI, n_11, n_93])

set_option maxHeartbeats 4000000 in
set_option maxRecDepth 100000 in
theorem m_X9_starOf_3 {X : Cx} {l : Launch} (h0 : Init X) {cm : Nat → Nat} {o : Nat} {σ : Sb} (hO : Ok σ.1)  (x : Int32) (i : Nat) (hxi : x = nI i) (hi : i < σ.1.2 0) : PM X l yX9_starOf cX9_starOf 3 (some .int) 1 21 [.ref o, .int x, .int 3] (SBH X cm o σ) (.int (starV σ.1 i 3)) := by
  subst hxi
  refine Met.mk (Bh := (SBH X cm o σ)) (by decide) (Nat.le_of_ble_eq_true rfl) ?_
  intro p e s m below meth c ls hF hB hl
  obtain ⟨ow, f, g, hz, hob, hsk, hpa, hre, ⟨cw, ew, nu, hcw, hwo⟩, hin, ⟨ln, lc, hln, hli⟩, hi60⟩ := hB
  have hs0 := hsk 0 (by decide)
  have hl : lv_has ls 3 [(0, .ref o), (1, .int (nI i)), (2, .int 3)] := hl
  obtain ⟨hx, hb, hml, hr, hlk, hown, hG⟩ := id hF
  have hK := hG.K h0
  have hS : va_S noA s.heap s.heap [] := va_S.rf
  have hO1 := hO.1
  have hO2 := hO.2.1
  have hO3 := hO.2.2.1
  refine lv_aload_n hx hb dX9_starOf_0 rfl (lv_at hl 0 rfl) ?_
  refine g_get (ci := 8) (v := .ref (f 0 0)) h0 hF inX9 hob.1 0 rfl rfl 0 (by decide) wf_X9_12 rfl rfl dX9_starOf_1 ?_
  refine g_get (ci := 4) (v := .ref (f 0 1)) h0 hF inX5 hs0.1 0 rfl rfl 0 (by decide) wf_X9_54 rfl rfl dX9_starOf_4 ?_
  refine lv_iload_n hx hb dX9_starOf_7 rfl (lv_at hl 1 rfl) ?_
  refine core_p (v := .int (bI (hasB (σ.1.2 0) (nI i)))) (grV (n := 1) (As := [.int (nI i)]) (rest := []) h0 hF (m_X6_has h0 (f := f 0) (k := σ.1) hO  (nI i)) wm_X9_135 wo_X6_has ws_X6__X6_has wz_X6 wc_X6_has ⟨by decide, by decide, by decide +kernel⟩ rfl ⟨Nat.le_of_ble_eq_true rfl, Nat.le_of_ble_eq_true rfl⟩ (ci := 5) ⟨_, hs0.1 1 _ rfl⟩ rfl hs0.1 hS noA_old ⟨Nat.zero_le _, Nat.zero_le _⟩ hl.1 rfl (Nat.le_of_ble_eq_true rfl) dX9_starOf_8) ?_
  refine lv_if_ne (tgt := 16) hx hb dX9_starOf_11 (by decide) (fun c_11 => ?_) (fun c_11 => absurd c_11 (bI_n0.mpr (hasB_nI (by omega) (by omega))))
  have n_11 := bI_n0.mp c_11
  refine lv_iload_n hx hb dX9_starOf_16 rfl (lv_at hl 2 rfl) ?_
  refine lv_tableIn (x := 3) (off := 85) (tgt := 102) hx hb dX9_starOf_17 (by decide) (by decide) (by decide) (by decide) ?_
  refine lv_aload_n hx hb dX9_starOf_102 rfl (lv_at hl 0 rfl) ?_
  refine g_get (ci := 8) (v := .ref (f 0 0)) h0 hF inX9 hob.1 0 rfl rfl 0 (by decide) wf_X9_12 rfl rfl dX9_starOf_103 ?_
  refine g_get (ci := 4) (v := .ref (f 0 1)) h0 hF inX5 hs0.1 0 rfl rfl 0 (by decide) wf_X9_54 rfl rfl dX9_starOf_106 ?_
  refine g_get (ci := 5) (v := .ref (f 0 6)) h0 hF inX6 hs0.1 1 rfl rfl 3 (by decide) wf_X9_149 rfl rfl dX9_starOf_109 ?_
  refine lv_iload_n hx hb dX9_starOf_112 rfl (lv_at hl 1 rfl) ?_
  refine g_iald hx hb hK hs0.1 6 0 rfl rfl i (rfl) (by omega) (by decide) dX9_starOf_113 ?_
  exact pm_iret hF dX9_starOf_114 (rfl)

set_option maxHeartbeats 4000000 in
set_option maxRecDepth 100000 in
theorem m_X9_starOf_4 {X : Cx} {l : Launch} (h0 : Init X) {cm : Nat → Nat} {o : Nat} {σ : Sb} (hO : Ok σ.1)  (x : Int32) (i : Nat) (hxi : x = nI i) (hi : i < σ.1.2 0) : PM X l yX9_starOf cX9_starOf 3 (some .int) 1 21 [.ref o, .int x, .int 4] (SBH X cm o σ) (.int (starV σ.1 i 4)) := by
  subst hxi
  refine Met.mk (Bh := (SBH X cm o σ)) (by decide) (Nat.le_of_ble_eq_true rfl) ?_
  intro p e s m below meth c ls hF hB hl
  obtain ⟨ow, f, g, hz, hob, hsk, hpa, hre, ⟨cw, ew, nu, hcw, hwo⟩, hin, ⟨ln, lc, hln, hli⟩, hi60⟩ := hB
  have hs0 := hsk 0 (by decide)
  have hl : lv_has ls 3 [(0, .ref o), (1, .int (nI i)), (2, .int 4)] := hl
  obtain ⟨hx, hb, hml, hr, hlk, hown, hG⟩ := id hF
  have hK := hG.K h0
  have hS : va_S noA s.heap s.heap [] := va_S.rf
  have hO1 := hO.1
  have hO2 := hO.2.1
  have hO3 := hO.2.2.1
  refine lv_aload_n hx hb dX9_starOf_0 rfl (lv_at hl 0 rfl) ?_
  refine g_get (ci := 8) (v := .ref (f 0 0)) h0 hF inX9 hob.1 0 rfl rfl 0 (by decide) wf_X9_12 rfl rfl dX9_starOf_1 ?_
  refine g_get (ci := 4) (v := .ref (f 0 1)) h0 hF inX5 hs0.1 0 rfl rfl 0 (by decide) wf_X9_54 rfl rfl dX9_starOf_4 ?_
  refine lv_iload_n hx hb dX9_starOf_7 rfl (lv_at hl 1 rfl) ?_
  refine core_p (v := .int (bI (hasB (σ.1.2 0) (nI i)))) (grV (n := 1) (As := [.int (nI i)]) (rest := []) h0 hF (m_X6_has h0 (f := f 0) (k := σ.1) hO  (nI i)) wm_X9_135 wo_X6_has ws_X6__X6_has wz_X6 wc_X6_has ⟨by decide, by decide, by decide +kernel⟩ rfl ⟨Nat.le_of_ble_eq_true rfl, Nat.le_of_ble_eq_true rfl⟩ (ci := 5) ⟨_, hs0.1 1 _ rfl⟩ rfl hs0.1 hS noA_old ⟨Nat.zero_le _, Nat.zero_le _⟩ hl.1 rfl (Nat.le_of_ble_eq_true rfl) dX9_starOf_8) ?_
  refine lv_if_ne (tgt := 16) hx hb dX9_starOf_11 (by decide) (fun c_11 => ?_) (fun c_11 => absurd c_11 (bI_n0.mpr (hasB_nI (by omega) (by omega))))
  have n_11 := bI_n0.mp c_11
  refine lv_iload_n hx hb dX9_starOf_16 rfl (lv_at hl 2 rfl) ?_
  refine lv_tableIn (x := 4) (off := 98) (tgt := 115) hx hb dX9_starOf_17 (by decide) (by decide) (by decide) (by decide) ?_
  refine lv_aload_n hx hb dX9_starOf_115 rfl (lv_at hl 0 rfl) ?_
  refine g_get (ci := 8) (v := .ref (f 0 0)) h0 hF inX9 hob.1 0 rfl rfl 0 (by decide) wf_X9_12 rfl rfl dX9_starOf_116 ?_
  refine g_get (ci := 4) (v := .ref (f 0 1)) h0 hF inX5 hs0.1 0 rfl rfl 0 (by decide) wf_X9_54 rfl rfl dX9_starOf_119 ?_
  refine g_get (ci := 5) (v := .ref (f 0 7)) h0 hF inX6 hs0.1 1 rfl rfl 4 (by decide) wf_X9_152 rfl rfl dX9_starOf_122 ?_
  refine lv_iload_n hx hb dX9_starOf_125 rfl (lv_at hl 1 rfl) ?_
  refine g_iald hx hb hK hs0.1 7 0 rfl rfl i (rfl) (by omega) (by decide) dX9_starOf_126 ?_
  exact pm_iret hF dX9_starOf_127 (rfl)

set_option maxHeartbeats 4000000 in
set_option maxRecDepth 100000 in
theorem m_X9_starOf_5 {X : Cx} {l : Launch} (h0 : Init X) {cm : Nat → Nat} {o : Nat} {σ : Sb} (hO : Ok σ.1)  (x : Int32) (i : Nat) (hxi : x = nI i) (hi : i < σ.1.2 0) : PM X l yX9_starOf cX9_starOf 3 (some .int) 2 45 [.ref o, .int x, .int 5] (SBH X cm o σ) (.int (starV σ.1 i 5)) := by
  subst hxi
  refine Met.mk (Bh := (SBH X cm o σ)) (by decide) (Nat.le_of_ble_eq_true rfl) ?_
  intro p e s m below meth c ls hF hB hl
  obtain ⟨ow, f, g, hz, hob, hsk, hpa, hre, ⟨cw, ew, nu, hcw, hwo⟩, hin, ⟨ln, lc, hln, hli⟩, hi60⟩ := hB
  have hs0 := hsk 0 (by decide)
  have hl : lv_has ls 3 [(0, .ref o), (1, .int (nI i)), (2, .int 5)] := hl
  obtain ⟨hx, hb, hml, hr, hlk, hown, hG⟩ := id hF
  have hK := hG.K h0
  have hS : va_S noA s.heap s.heap [] := va_S.rf
  have hO1 := hO.1
  have hO2 := hO.2.1
  have hO3 := hO.2.2.1
  refine lv_aload_n hx hb dX9_starOf_0 rfl (lv_at hl 0 rfl) ?_
  refine g_get (ci := 8) (v := .ref (f 0 0)) h0 hF inX9 hob.1 0 rfl rfl 0 (by decide) wf_X9_12 rfl rfl dX9_starOf_1 ?_
  refine g_get (ci := 4) (v := .ref (f 0 1)) h0 hF inX5 hs0.1 0 rfl rfl 0 (by decide) wf_X9_54 rfl rfl dX9_starOf_4 ?_
  refine lv_iload_n hx hb dX9_starOf_7 rfl (lv_at hl 1 rfl) ?_
  refine core_p (v := .int (bI (hasB (σ.1.2 0) (nI i)))) (grV (n := 1) (As := [.int (nI i)]) (rest := []) h0 hF (m_X6_has h0 (f := f 0) (k := σ.1) hO  (nI i)) wm_X9_135 wo_X6_has ws_X6__X6_has wz_X6 wc_X6_has ⟨by decide, by decide, by decide +kernel⟩ rfl ⟨Nat.le_of_ble_eq_true rfl, Nat.le_of_ble_eq_true rfl⟩ (ci := 5) ⟨_, hs0.1 1 _ rfl⟩ rfl hs0.1 hS noA_old ⟨Nat.zero_le _, Nat.zero_le _⟩ hl.1 rfl (Nat.le_of_ble_eq_true rfl) dX9_starOf_8) ?_
  refine lv_if_ne (tgt := 16) hx hb dX9_starOf_11 (by decide) (fun c_11 => ?_) (fun c_11 => absurd c_11 (bI_n0.mpr (hasB_nI (by omega) (by omega))))
  have n_11 := bI_n0.mp c_11
  refine lv_iload_n hx hb dX9_starOf_16 rfl (lv_at hl 2 rfl) ?_
  refine lv_tableIn (x := 5) (off := 111) (tgt := 128) hx hb dX9_starOf_17 (by decide) (by decide) (by decide) (by decide) ?_
  refine lv_aload_n hx hb dX9_starOf_128 rfl (lv_at hl 0 rfl) ?_
  refine g_get (ci := 8) (v := .ref (f 0 0)) h0 hF inX9 hob.1 0 rfl rfl 0 (by decide) wf_X9_12 rfl rfl dX9_starOf_129 ?_
  refine g_get (ci := 4) (v := .ref (f 0 3)) h0 hF inX5 hs0.1 0 rfl rfl 2 (by decide) wf_X9_155 rfl rfl dX9_starOf_132 ?_
  refine lv_iload_n hx hb dX9_starOf_135 rfl (lv_at hl 1 rfl) ?_
  refine core_p (v := .int (nI (cN (fun z => decide (σ.1.1 15 z = (nI i))) (σ.1.2 2)))) (grV (n := 1) (As := [.int (nI i)]) (rest := []) h0 hF (m_X7_countOn h0 (f := f 0) (k := σ.1) hO  (nI i)) wm_X9_159 wo_X7_countOn ws_X7__X7_countOn wz_X7 wc_X7_countOn ⟨by decide, by decide, by decide +kernel⟩ rfl ⟨Nat.le_of_ble_eq_true rfl, Nat.le_of_ble_eq_true rfl⟩ (ci := 6) ⟨_, hs0.1 3 _ rfl⟩ rfl hs0.1 hS noA_old ⟨Nat.zero_le _, Nat.zero_le _⟩ hl.1 rfl (Nat.le_of_ble_eq_true rfl) dX9_starOf_136) ?_
  exact pm_iret hF dX9_starOf_139 (rfl)

set_option maxHeartbeats 4000000 in
set_option maxRecDepth 100000 in
theorem m_X9_roofOf_0 {X : Cx} {l : Launch} (h0 : Init X) {cm : Nat → Nat} {o : Nat} {σ : Sb} (hO : Ok σ.1)  (x : Int32) (r : Nat) (hxr : x = nI r) (hr : r < σ.1.2 1) : PM X l yX9_roofOf cX9_roofOf 3 (some .int) 1 21 [.ref o, .int x, .int 0] (SBH X cm o σ) (.int (roofV σ.1 r 0)) := by
  subst hxr
  refine Met.mk (Bh := (SBH X cm o σ)) (by decide) (Nat.le_of_ble_eq_true rfl) ?_
  intro p e s m below meth c ls hF hB hl
  obtain ⟨ow, f, g, hz, hob, hsk, hpa, hre, ⟨cw, ew, nu, hcw, hwo⟩, hin, ⟨ln, lc, hln, hli⟩, hi60⟩ := hB
  have hs0 := hsk 0 (by decide)
  have hl : lv_has ls 3 [(0, .ref o), (1, .int (nI r)), (2, .int 0)] := hl
  obtain ⟨hx, hb, hml, hr, hlk, hown, hG⟩ := id hF
  have hK := hG.K h0
  have hS : va_S noA s.heap s.heap [] := va_S.rf
  have hO1 := hO.1
  have hO2 := hO.2.1
  have hO3 := hO.2.2.1
  refine lv_aload_n hx hb dX9_roofOf_0 rfl (lv_at hl 0 rfl) ?_
  refine g_get (ci := 8) (v := .ref (f 0 0)) h0 hF inX9 hob.1 0 rfl rfl 0 (by decide) wf_X9_12 rfl rfl dX9_roofOf_1 ?_
  refine g_get (ci := 4) (v := .ref (f 0 2)) h0 hF inX5 hs0.1 0 rfl rfl 1 (by decide) wf_X9_165 rfl rfl dX9_roofOf_4 ?_
  refine lv_iload_n hx hb dX9_roofOf_7 rfl (lv_at hl 1 rfl) ?_
  refine core_p (v := .int (bI (hasB (σ.1.2 1) (nI r)))) (grV (n := 1) (As := [.int (nI r)]) (rest := []) h0 hF (m_X4_has h0 (f := f 0) (k := σ.1) hO  (nI r)) wm_X9_169 wo_X4_has ws_X4__X4_has wz_X4 wc_X4_has ⟨by decide, by decide, by decide +kernel⟩ rfl ⟨Nat.le_of_ble_eq_true rfl, Nat.le_of_ble_eq_true rfl⟩ (ci := 3) ⟨_, hs0.1 2 _ rfl⟩ rfl hs0.1 hS noA_old ⟨Nat.zero_le _, Nat.zero_le _⟩ hl.1 rfl (Nat.le_of_ble_eq_true rfl) dX9_roofOf_8) ?_
  refine lv_if_ne (tgt := 16) hx hb dX9_roofOf_11 (by decide) (fun c_11 => ?_) (fun c_11 => absurd c_11 (bI_n0.mpr (hasB_nI (by omega) (by omega))))
  have n_11 := bI_n0.mp c_11
  refine lv_iload_n hx hb dX9_roofOf_16 rfl (lv_at hl 2 rfl) ?_
  refine lv_tableIn (x := 0) (off := 51) (tgt := 68) hx hb dX9_roofOf_17 (by decide) (by decide) (by decide) (by decide) ?_
  refine lv_aload_n hx hb dX9_roofOf_68 rfl (lv_at hl 0 rfl) ?_
  refine g_get (ci := 8) (v := .ref (f 0 0)) h0 hF inX9 hob.1 0 rfl rfl 0 (by decide) wf_X9_12 rfl rfl dX9_roofOf_69 ?_
  refine g_get (ci := 4) (v := .ref (f 0 2)) h0 hF inX5 hs0.1 0 rfl rfl 1 (by decide) wf_X9_165 rfl rfl dX9_roofOf_72 ?_
  refine g_get (ci := 3) (v := .ref (f 0 9)) h0 hF inX4 hs0.1 2 rfl rfl 1 (by decide) wf_X9_172 rfl rfl dX9_roofOf_75 ?_
  refine lv_iload_n hx hb dX9_roofOf_78 rfl (lv_at hl 1 rfl) ?_
  refine g_iald hx hb hK hs0.1 9 0 rfl rfl r (rfl) (by omega) (by decide) dX9_roofOf_79 ?_
  exact pm_iret hF dX9_roofOf_80 (rfl)

set_option maxHeartbeats 4000000 in
set_option maxRecDepth 100000 in
theorem m_X9_roofOf_1 {X : Cx} {l : Launch} (h0 : Init X) {cm : Nat → Nat} {o : Nat} {σ : Sb} (hO : Ok σ.1)  (x : Int32) (r : Nat) (hxr : x = nI r) (hr : r < σ.1.2 1) : PM X l yX9_roofOf cX9_roofOf 3 (some .int) 1 21 [.ref o, .int x, .int 1] (SBH X cm o σ) (.int (roofV σ.1 r 1)) := by
  subst hxr
  refine Met.mk (Bh := (SBH X cm o σ)) (by decide) (Nat.le_of_ble_eq_true rfl) ?_
  intro p e s m below meth c ls hF hB hl
  obtain ⟨ow, f, g, hz, hob, hsk, hpa, hre, ⟨cw, ew, nu, hcw, hwo⟩, hin, ⟨ln, lc, hln, hli⟩, hi60⟩ := hB
  have hs0 := hsk 0 (by decide)
  have hl : lv_has ls 3 [(0, .ref o), (1, .int (nI r)), (2, .int 1)] := hl
  obtain ⟨hx, hb, hml, hr, hlk, hown, hG⟩ := id hF
  have hK := hG.K h0
  have hS : va_S noA s.heap s.heap [] := va_S.rf
  have hO1 := hO.1
  have hO2 := hO.2.1
  have hO3 := hO.2.2.1
  refine lv_aload_n hx hb dX9_roofOf_0 rfl (lv_at hl 0 rfl) ?_
  refine g_get (ci := 8) (v := .ref (f 0 0)) h0 hF inX9 hob.1 0 rfl rfl 0 (by decide) wf_X9_12 rfl rfl dX9_roofOf_1 ?_
  refine g_get (ci := 4) (v := .ref (f 0 2)) h0 hF inX5 hs0.1 0 rfl rfl 1 (by decide) wf_X9_165 rfl rfl dX9_roofOf_4 ?_
  refine lv_iload_n hx hb dX9_roofOf_7 rfl (lv_at hl 1 rfl) ?_
  refine core_p (v := .int (bI (hasB (σ.1.2 1) (nI r)))) (grV (n := 1) (As := [.int (nI r)]) (rest := []) h0 hF (m_X4_has h0 (f := f 0) (k := σ.1) hO  (nI r)) wm_X9_169 wo_X4_has ws_X4__X4_has wz_X4 wc_X4_has ⟨by decide, by decide, by decide +kernel⟩ rfl ⟨Nat.le_of_ble_eq_true rfl, Nat.le_of_ble_eq_true rfl⟩ (ci := 3) ⟨_, hs0.1 2 _ rfl⟩ rfl hs0.1 hS noA_old ⟨Nat.zero_le _, Nat.zero_le _⟩ hl.1 rfl (Nat.le_of_ble_eq_true rfl) dX9_roofOf_8) ?_
  refine lv_if_ne (tgt := 16) hx hb dX9_roofOf_11 (by decide) (fun c_11 => ?_) (fun c_11 => absurd c_11 (bI_n0.mpr (hasB_nI (by omega) (by omega))))
  have n_11 := bI_n0.mp c_11
  refine lv_iload_n hx hb dX9_roofOf_16 rfl (lv_at hl 2 rfl) ?_
  refine lv_tableIn (x := 1) (off := 64) (tgt := 81) hx hb dX9_roofOf_17 (by decide) (by decide) (by decide) (by decide) ?_
  refine lv_aload_n hx hb dX9_roofOf_81 rfl (lv_at hl 0 rfl) ?_
  refine g_get (ci := 8) (v := .ref (f 0 0)) h0 hF inX9 hob.1 0 rfl rfl 0 (by decide) wf_X9_12 rfl rfl dX9_roofOf_82 ?_
  refine g_get (ci := 4) (v := .ref (f 0 2)) h0 hF inX5 hs0.1 0 rfl rfl 1 (by decide) wf_X9_165 rfl rfl dX9_roofOf_85 ?_
  refine g_get (ci := 3) (v := .ref (f 0 11)) h0 hF inX4 hs0.1 2 rfl rfl 3 (by decide) wf_X9_175 rfl rfl dX9_roofOf_88 ?_
  refine lv_iload_n hx hb dX9_roofOf_91 rfl (lv_at hl 1 rfl) ?_
  refine g_iald hx hb hK hs0.1 11 0 rfl rfl r (rfl) (by omega) (by decide) dX9_roofOf_92 ?_
  exact pm_iret hF dX9_roofOf_93 (rfl)

set_option maxHeartbeats 4000000 in
set_option maxRecDepth 100000 in
theorem m_X9_roofOf_2 {X : Cx} {l : Launch} (h0 : Init X) {cm : Nat → Nat} {o : Nat} {σ : Sb} (hO : Ok σ.1)  (x : Int32) (r : Nat) (hxr : x = nI r) (hr : r < σ.1.2 1) : PM X l yX9_roofOf cX9_roofOf 3 (some .int) 2 45 [.ref o, .int x, .int 2] (SBH X cm o σ) (.int (roofV σ.1 r 2)) := by
  subst hxr
  refine Met.mk (Bh := (SBH X cm o σ)) (by decide) (Nat.le_of_ble_eq_true rfl) ?_
  intro p e s m below meth c ls hF hB hl
  obtain ⟨ow, f, g, hz, hob, hsk, hpa, hre, ⟨cw, ew, nu, hcw, hwo⟩, hin, ⟨ln, lc, hln, hli⟩, hi60⟩ := hB
  have hs0 := hsk 0 (by decide)
  have hl : lv_has ls 3 [(0, .ref o), (1, .int (nI r)), (2, .int 2)] := hl
  obtain ⟨hx, hb, hml, hr, hlk, hown, hG⟩ := id hF
  have hK := hG.K h0
  have hS : va_S noA s.heap s.heap [] := va_S.rf
  have hO1 := hO.1
  have hO2 := hO.2.1
  have hO3 := hO.2.2.1
  refine lv_aload_n hx hb dX9_roofOf_0 rfl (lv_at hl 0 rfl) ?_
  refine g_get (ci := 8) (v := .ref (f 0 0)) h0 hF inX9 hob.1 0 rfl rfl 0 (by decide) wf_X9_12 rfl rfl dX9_roofOf_1 ?_
  refine g_get (ci := 4) (v := .ref (f 0 2)) h0 hF inX5 hs0.1 0 rfl rfl 1 (by decide) wf_X9_165 rfl rfl dX9_roofOf_4 ?_
  refine lv_iload_n hx hb dX9_roofOf_7 rfl (lv_at hl 1 rfl) ?_
  refine core_p (v := .int (bI (hasB (σ.1.2 1) (nI r)))) (grV (n := 1) (As := [.int (nI r)]) (rest := []) h0 hF (m_X4_has h0 (f := f 0) (k := σ.1) hO  (nI r)) wm_X9_169 wo_X4_has ws_X4__X4_has wz_X4 wc_X4_has ⟨by decide, by decide, by decide +kernel⟩ rfl ⟨Nat.le_of_ble_eq_true rfl, Nat.le_of_ble_eq_true rfl⟩ (ci := 3) ⟨_, hs0.1 2 _ rfl⟩ rfl hs0.1 hS noA_old ⟨Nat.zero_le _, Nat.zero_le _⟩ hl.1 rfl (Nat.le_of_ble_eq_true rfl) dX9_roofOf_8) ?_
  refine lv_if_ne (tgt := 16) hx hb dX9_roofOf_11 (by decide) (fun c_11 => ?_) (fun c_11 => absurd c_11 (bI_n0.mpr (hasB_nI (by omega) (by omega))))
  have n_11 := bI_n0.mp c_11
  refine lv_iload_n hx hb dX9_roofOf_16 rfl (lv_at hl 2 rfl) ?_
  refine lv_tableIn (x := 2) (off := 77) (tgt := 94) hx hb dX9_roofOf_17 (by decide) (by decide) (by decide) (by decide) ?_
  refine lv_aload_n hx hb dX9_roofOf_94 rfl (lv_at hl 0 rfl) ?_
  refine g_get (ci := 8) (v := .ref (f 0 0)) h0 hF inX9 hob.1 0 rfl rfl 0 (by decide) wf_X9_12 rfl rfl dX9_roofOf_95 ?_
  refine g_get (ci := 4) (v := .ref (f 0 3)) h0 hF inX5 hs0.1 0 rfl rfl 2 (by decide) wf_X9_155 rfl rfl dX9_roofOf_98 ?_
  refine lv_iload_n hx hb dX9_roofOf_101 rfl (lv_at hl 1 rfl) ?_
  refine core_p (v := .int (nI (cN (fun z => decide (σ.1.1 14 z = (nI r))) (σ.1.2 2)))) (grV (n := 1) (As := [.int (nI r)]) (rest := []) h0 hF (m_X7_countOf h0 (f := f 0) (k := σ.1) hO  (nI r)) wm_X9_178 wo_X7_countOf ws_X7__X7_countOf wz_X7 wc_X7_countOf ⟨by decide, by decide, by decide +kernel⟩ rfl ⟨Nat.le_of_ble_eq_true rfl, Nat.le_of_ble_eq_true rfl⟩ (ci := 6) ⟨_, hs0.1 3 _ rfl⟩ rfl hs0.1 hS noA_old ⟨Nat.zero_le _, Nat.zero_le _⟩ hl.1 rfl (Nat.le_of_ble_eq_true rfl) dX9_roofOf_102) ?_
  exact pm_iret hF dX9_roofOf_105 (rfl)

set_option maxHeartbeats 4000000 in
set_option maxRecDepth 100000 in
theorem m_X9_roofOf_3 {X : Cx} {l : Launch} (h0 : Init X) {cm : Nat → Nat} {o : Nat} {σ : Sb} (hO : Ok σ.1)  (x : Int32) (r : Nat) (hxr : x = nI r) (hr : r < σ.1.2 1) : PM X l yX9_roofOf cX9_roofOf 3 (some .int) 2 44 [.ref o, .int x, .int 3] (SBH X cm o σ) (.int (roofV σ.1 r 3)) := by
  subst hxr
  refine Met.mk (Bh := (SBH X cm o σ)) (by decide) (Nat.le_of_ble_eq_true rfl) ?_
  intro p e s m below meth c ls hF hB hl
  obtain ⟨ow, f, g, hz, hob, hsk, hpa, hre, ⟨cw, ew, nu, hcw, hwo⟩, hin, ⟨ln, lc, hln, hli⟩, hi60⟩ := hB
  have hs0 := hsk 0 (by decide)
  have hl : lv_has ls 3 [(0, .ref o), (1, .int (nI r)), (2, .int 3)] := hl
  obtain ⟨hx, hb, hml, hr, hlk, hown, hG⟩ := id hF
  have hK := hG.K h0
  have hS : va_S noA s.heap s.heap [] := va_S.rf
  have hO1 := hO.1
  have hO2 := hO.2.1
  have hO3 := hO.2.2.1
  refine lv_aload_n hx hb dX9_roofOf_0 rfl (lv_at hl 0 rfl) ?_
  refine g_get (ci := 8) (v := .ref (f 0 0)) h0 hF inX9 hob.1 0 rfl rfl 0 (by decide) wf_X9_12 rfl rfl dX9_roofOf_1 ?_
  refine g_get (ci := 4) (v := .ref (f 0 2)) h0 hF inX5 hs0.1 0 rfl rfl 1 (by decide) wf_X9_165 rfl rfl dX9_roofOf_4 ?_
  refine lv_iload_n hx hb dX9_roofOf_7 rfl (lv_at hl 1 rfl) ?_
  refine core_p (v := .int (bI (hasB (σ.1.2 1) (nI r)))) (grV (n := 1) (As := [.int (nI r)]) (rest := []) h0 hF (m_X4_has h0 (f := f 0) (k := σ.1) hO  (nI r)) wm_X9_169 wo_X4_has ws_X4__X4_has wz_X4 wc_X4_has ⟨by decide, by decide, by decide +kernel⟩ rfl ⟨Nat.le_of_ble_eq_true rfl, Nat.le_of_ble_eq_true rfl⟩ (ci := 3) ⟨_, hs0.1 2 _ rfl⟩ rfl hs0.1 hS noA_old ⟨Nat.zero_le _, Nat.zero_le _⟩ hl.1 rfl (Nat.le_of_ble_eq_true rfl) dX9_roofOf_8) ?_
  refine lv_if_ne (tgt := 16) hx hb dX9_roofOf_11 (by decide) (fun c_11 => ?_) (fun c_11 => absurd c_11 (bI_n0.mpr (hasB_nI (by omega) (by omega))))
  have n_11 := bI_n0.mp c_11
  refine lv_iload_n hx hb dX9_roofOf_16 rfl (lv_at hl 2 rfl) ?_
  refine lv_tableIn (x := 3) (off := 89) (tgt := 106) hx hb dX9_roofOf_17 (by decide) (by decide) (by decide) (by decide) ?_
  refine lv_aload_n hx hb dX9_roofOf_106 rfl (lv_at hl 0 rfl) ?_
  refine g_get (ci := 8) (v := .ref (f 0 0)) h0 hF inX9 hob.1 0 rfl rfl 0 (by decide) wf_X9_12 rfl rfl dX9_roofOf_107 ?_
  refine g_get (ci := 4) (v := .ref (f 0 3)) h0 hF inX5 hs0.1 0 rfl rfl 2 (by decide) wf_X9_155 rfl rfl dX9_roofOf_110 ?_
  refine lv_iload_n hx hb dX9_roofOf_113 rfl (lv_at hl 1 rfl) ?_
  refine core_p (v := .int (nI (iN σ.1 (nI r) (σ.1.2 2)))) (grV (n := 1) (As := [.int (nI r)]) (rest := []) h0 hF (m_X7_impoundedSetOf h0 (f := f 0) (k := σ.1) hO  (nI r)) wm_X9_181 wo_X7_impoundedSetOf ws_X7__X7_impoundedSetOf wz_X7 wc_X7_impoundedSetOf ⟨by decide, by decide, by decide +kernel⟩ rfl ⟨Nat.le_of_ble_eq_true rfl, Nat.le_of_ble_eq_true rfl⟩ (ci := 6) ⟨_, hs0.1 3 _ rfl⟩ rfl hs0.1 hS noA_old ⟨Nat.zero_le _, Nat.zero_le _⟩ hl.1 rfl (Nat.le_of_ble_eq_true rfl) dX9_roofOf_114) ?_
  refine core_p (v := .int (bcI (nI (iN σ.1 (nI r) (σ.1.2 2))))) (grS (n := 1) (As := [.int (nI (iN σ.1 (nI r) (σ.1.2 2)))]) (rest := []) h0 hF (m_J6_bitCount_0f7a4 h0 (nI (iN σ.1 (nI r) (σ.1.2 2)))) wm_X9_184 wt_J6_bitCount_0f7a4 wz_J6 wc_J6_bitCount_0f7a4 ⟨by decide, by decide, by decide +kernel⟩ rfl ⟨Nat.le_of_ble_eq_true rfl, Nat.le_of_ble_eq_true rfl⟩ trivial hS noA_old ⟨Nat.zero_le _, Nat.zero_le _⟩ hl.1 rfl (Nat.le_of_ble_eq_true rfl) dX9_roofOf_117) ?_
  exact pm_iret hF dX9_roofOf_120 (rfl)

set_option maxHeartbeats 4000000 in
set_option maxRecDepth 100000 in
theorem m_X9_roofOf_4 {X : Cx} {l : Launch} (h0 : Init X) {cm : Nat → Nat} {o : Nat} {σ : Sb} (hO : Ok σ.1)  (x : Int32) (r : Nat) (hxr : x = nI r) (hr : r < σ.1.2 1) : PM X l yX9_roofOf cX9_roofOf 3 (some .int) 1 21 [.ref o, .int x, .int 4] (SBH X cm o σ) (.int (roofV σ.1 r 4)) := by
  subst hxr
  refine Met.mk (Bh := (SBH X cm o σ)) (by decide) (Nat.le_of_ble_eq_true rfl) ?_
  intro p e s m below meth c ls hF hB hl
  obtain ⟨ow, f, g, hz, hob, hsk, hpa, hre, ⟨cw, ew, nu, hcw, hwo⟩, hin, ⟨ln, lc, hln, hli⟩, hi60⟩ := hB
  have hs0 := hsk 0 (by decide)
  have hl : lv_has ls 3 [(0, .ref o), (1, .int (nI r)), (2, .int 4)] := hl
  obtain ⟨hx, hb, hml, hr, hlk, hown, hG⟩ := id hF
  have hK := hG.K h0
  have hS : va_S noA s.heap s.heap [] := va_S.rf
  have hO1 := hO.1
  have hO2 := hO.2.1
  have hO3 := hO.2.2.1
  refine lv_aload_n hx hb dX9_roofOf_0 rfl (lv_at hl 0 rfl) ?_
  refine g_get (ci := 8) (v := .ref (f 0 0)) h0 hF inX9 hob.1 0 rfl rfl 0 (by decide) wf_X9_12 rfl rfl dX9_roofOf_1 ?_
  refine g_get (ci := 4) (v := .ref (f 0 2)) h0 hF inX5 hs0.1 0 rfl rfl 1 (by decide) wf_X9_165 rfl rfl dX9_roofOf_4 ?_
  refine lv_iload_n hx hb dX9_roofOf_7 rfl (lv_at hl 1 rfl) ?_
  refine core_p (v := .int (bI (hasB (σ.1.2 1) (nI r)))) (grV (n := 1) (As := [.int (nI r)]) (rest := []) h0 hF (m_X4_has h0 (f := f 0) (k := σ.1) hO  (nI r)) wm_X9_169 wo_X4_has ws_X4__X4_has wz_X4 wc_X4_has ⟨by decide, by decide, by decide +kernel⟩ rfl ⟨Nat.le_of_ble_eq_true rfl, Nat.le_of_ble_eq_true rfl⟩ (ci := 3) ⟨_, hs0.1 2 _ rfl⟩ rfl hs0.1 hS noA_old ⟨Nat.zero_le _, Nat.zero_le _⟩ hl.1 rfl (Nat.le_of_ble_eq_true rfl) dX9_roofOf_8) ?_
  refine lv_if_ne (tgt := 16) hx hb dX9_roofOf_11 (by decide) (fun c_11 => ?_) (fun c_11 => absurd c_11 (bI_n0.mpr (hasB_nI (by omega) (by omega))))
  have n_11 := bI_n0.mp c_11
  refine lv_iload_n hx hb dX9_roofOf_16 rfl (lv_at hl 2 rfl) ?_
  refine lv_tableIn (x := 4) (off := 104) (tgt := 121) hx hb dX9_roofOf_17 (by decide) (by decide) (by decide) (by decide) ?_
  refine lv_aload_n hx hb dX9_roofOf_121 rfl (lv_at hl 0 rfl) ?_
  refine g_get (ci := 8) (v := .ref (f 0 0)) h0 hF inX9 hob.1 0 rfl rfl 0 (by decide) wf_X9_12 rfl rfl dX9_roofOf_122 ?_
  refine g_get (ci := 4) (v := .ref (f 0 2)) h0 hF inX5 hs0.1 0 rfl rfl 1 (by decide) wf_X9_165 rfl rfl dX9_roofOf_125 ?_
  refine g_get (ci := 3) (v := .ref (f 0 14)) h0 hF inX4 hs0.1 2 rfl rfl 6 (by decide) wf_X9_189 rfl rfl dX9_roofOf_128 ?_
  refine lv_iload_n hx hb dX9_roofOf_131 rfl (lv_at hl 1 rfl) ?_
  refine g_iald hx hb hK hs0.1 14 0 rfl rfl r (rfl) (by omega) (by decide) dX9_roofOf_132 ?_
  exact pm_iret hF dX9_roofOf_133 (rfl)

set_option maxHeartbeats 4000000 in
set_option maxRecDepth 100000 in
theorem m_X9_roofOf_5 {X : Cx} {l : Launch} (h0 : Init X) {cm : Nat → Nat} {o : Nat} {σ : Sb} (hO : Ok σ.1)  (x : Int32) (r : Nat) (hxr : x = nI r) (hr : r < σ.1.2 1) : PM X l yX9_roofOf cX9_roofOf 3 (some .int) 1 21 [.ref o, .int x, .int 5] (SBH X cm o σ) (.int (roofV σ.1 r 5)) := by
  subst hxr
  refine Met.mk (Bh := (SBH X cm o σ)) (by decide) (Nat.le_of_ble_eq_true rfl) ?_
  intro p e s m below meth c ls hF hB hl
  obtain ⟨ow, f, g, hz, hob, hsk, hpa, hre, ⟨cw, ew, nu, hcw, hwo⟩, hin, ⟨ln, lc, hln, hli⟩, hi60⟩ := hB
  have hs0 := hsk 0 (by decide)
  have hl : lv_has ls 3 [(0, .ref o), (1, .int (nI r)), (2, .int 5)] := hl
  obtain ⟨hx, hb, hml, hr, hlk, hown, hG⟩ := id hF
  have hK := hG.K h0
  have hS : va_S noA s.heap s.heap [] := va_S.rf
  have hO1 := hO.1
  have hO2 := hO.2.1
  have hO3 := hO.2.2.1
  refine lv_aload_n hx hb dX9_roofOf_0 rfl (lv_at hl 0 rfl) ?_
  refine g_get (ci := 8) (v := .ref (f 0 0)) h0 hF inX9 hob.1 0 rfl rfl 0 (by decide) wf_X9_12 rfl rfl dX9_roofOf_1 ?_
  refine g_get (ci := 4) (v := .ref (f 0 2)) h0 hF inX5 hs0.1 0 rfl rfl 1 (by decide) wf_X9_165 rfl rfl dX9_roofOf_4 ?_
  refine lv_iload_n hx hb dX9_roofOf_7 rfl (lv_at hl 1 rfl) ?_
  refine core_p (v := .int (bI (hasB (σ.1.2 1) (nI r)))) (grV (n := 1) (As := [.int (nI r)]) (rest := []) h0 hF (m_X4_has h0 (f := f 0) (k := σ.1) hO  (nI r)) wm_X9_169 wo_X4_has ws_X4__X4_has wz_X4 wc_X4_has ⟨by decide, by decide, by decide +kernel⟩ rfl ⟨Nat.le_of_ble_eq_true rfl, Nat.le_of_ble_eq_true rfl⟩ (ci := 3) ⟨_, hs0.1 2 _ rfl⟩ rfl hs0.1 hS noA_old ⟨Nat.zero_le _, Nat.zero_le _⟩ hl.1 rfl (Nat.le_of_ble_eq_true rfl) dX9_roofOf_8) ?_
  refine lv_if_ne (tgt := 16) hx hb dX9_roofOf_11 (by decide) (fun c_11 => ?_) (fun c_11 => absurd c_11 (bI_n0.mpr (hasB_nI (by omega) (by omega))))
  have n_11 := bI_n0.mp c_11
  refine lv_iload_n hx hb dX9_roofOf_16 rfl (lv_at hl 2 rfl) ?_
  refine lv_tableIn (x := 5) (off := 117) (tgt := 134) hx hb dX9_roofOf_17 (by decide) (by decide) (by decide) (by decide) ?_
  refine lv_aload_n hx hb dX9_roofOf_134 rfl (lv_at hl 0 rfl) ?_
  refine g_get (ci := 8) (v := .ref (f 0 0)) h0 hF inX9 hob.1 0 rfl rfl 0 (by decide) wf_X9_12 rfl rfl dX9_roofOf_135 ?_
  refine g_get (ci := 4) (v := .ref (f 0 2)) h0 hF inX5 hs0.1 0 rfl rfl 1 (by decide) wf_X9_165 rfl rfl dX9_roofOf_138 ?_
  refine g_get (ci := 3) (v := .ref (f 0 15)) h0 hF inX4 hs0.1 2 rfl rfl 7 (by decide) wf_X9_192 rfl rfl dX9_roofOf_141 ?_
  refine lv_iload_n hx hb dX9_roofOf_144 rfl (lv_at hl 1 rfl) ?_
  refine g_iald hx hb hK hs0.1 15 0 rfl rfl r (rfl) (by omega) (by decide) dX9_roofOf_145 ?_
  exact pm_iret hF dX9_roofOf_146 (rfl)

set_option maxHeartbeats 4000000 in
set_option maxRecDepth 100000 in
theorem m_X9_roofOf_6 {X : Cx} {l : Launch} (h0 : Init X) {cm : Nat → Nat} {o : Nat} {σ : Sb} (hO : Ok σ.1)  (x : Int32) (r : Nat) (hxr : x = nI r) (hr : r < σ.1.2 1) : PM X l yX9_roofOf cX9_roofOf 3 (some .int) 2 45 [.ref o, .int x, .int 6] (SBH X cm o σ) (.int (roofV σ.1 r 6)) := by
  subst hxr
  refine Met.mk (Bh := (SBH X cm o σ)) (by decide) (Nat.le_of_ble_eq_true rfl) ?_
  intro p e s m below meth c ls hF hB hl
  obtain ⟨ow, f, g, hz, hob, hsk, hpa, hre, ⟨cw, ew, nu, hcw, hwo⟩, hin, ⟨ln, lc, hln, hli⟩, hi60⟩ := hB
  have hs0 := hsk 0 (by decide)
  have hl : lv_has ls 3 [(0, .ref o), (1, .int (nI r)), (2, .int 6)] := hl
  obtain ⟨hx, hb, hml, hr, hlk, hown, hG⟩ := id hF
  have hK := hG.K h0
  have hS : va_S noA s.heap s.heap [] := va_S.rf
  have hO1 := hO.1
  have hO2 := hO.2.1
  have hO3 := hO.2.2.1
  refine lv_aload_n hx hb dX9_roofOf_0 rfl (lv_at hl 0 rfl) ?_
  refine g_get (ci := 8) (v := .ref (f 0 0)) h0 hF inX9 hob.1 0 rfl rfl 0 (by decide) wf_X9_12 rfl rfl dX9_roofOf_1 ?_
  refine g_get (ci := 4) (v := .ref (f 0 2)) h0 hF inX5 hs0.1 0 rfl rfl 1 (by decide) wf_X9_165 rfl rfl dX9_roofOf_4 ?_
  refine lv_iload_n hx hb dX9_roofOf_7 rfl (lv_at hl 1 rfl) ?_
  refine core_p (v := .int (bI (hasB (σ.1.2 1) (nI r)))) (grV (n := 1) (As := [.int (nI r)]) (rest := []) h0 hF (m_X4_has h0 (f := f 0) (k := σ.1) hO  (nI r)) wm_X9_169 wo_X4_has ws_X4__X4_has wz_X4 wc_X4_has ⟨by decide, by decide, by decide +kernel⟩ rfl ⟨Nat.le_of_ble_eq_true rfl, Nat.le_of_ble_eq_true rfl⟩ (ci := 3) ⟨_, hs0.1 2 _ rfl⟩ rfl hs0.1 hS noA_old ⟨Nat.zero_le _, Nat.zero_le _⟩ hl.1 rfl (Nat.le_of_ble_eq_true rfl) dX9_roofOf_8) ?_
  refine lv_if_ne (tgt := 16) hx hb dX9_roofOf_11 (by decide) (fun c_11 => ?_) (fun c_11 => absurd c_11 (bI_n0.mpr (hasB_nI (by omega) (by omega))))
  have n_11 := bI_n0.mp c_11
  refine lv_iload_n hx hb dX9_roofOf_16 rfl (lv_at hl 2 rfl) ?_
  refine lv_tableIn (x := 6) (off := 130) (tgt := 147) hx hb dX9_roofOf_17 (by decide) (by decide) (by decide) (by decide) ?_
  refine lv_aload_n hx hb dX9_roofOf_147 rfl (lv_at hl 0 rfl) ?_
  refine g_get (ci := 8) (v := .ref (f 0 0)) h0 hF inX9 hob.1 0 rfl rfl 0 (by decide) wf_X9_12 rfl rfl dX9_roofOf_148 ?_
  refine g_get (ci := 4) (v := .ref (f 0 1)) h0 hF inX5 hs0.1 0 rfl rfl 0 (by decide) wf_X9_54 rfl rfl dX9_roofOf_151 ?_
  refine lv_iload_n hx hb dX9_roofOf_154 rfl (lv_at hl 1 rfl) ?_
  refine core_p (v := .int (nI (cN (fun z => decide (σ.1.1 2 z = (nI r))) (σ.1.2 0)))) (grV (n := 1) (As := [.int (nI r)]) (rest := []) h0 hF (m_X6_countClaimedBy h0 (f := f 0) (k := σ.1) hO  (nI r)) wm_X9_195 wo_X6_countClaimedBy ws_X6__X6_countClaimedBy wz_X6 wc_X6_countClaimedBy ⟨by decide, by decide, by decide +kernel⟩ rfl ⟨Nat.le_of_ble_eq_true rfl, Nat.le_of_ble_eq_true rfl⟩ (ci := 5) ⟨_, hs0.1 1 _ rfl⟩ rfl hs0.1 hS noA_old ⟨Nat.zero_le _, Nat.zero_le _⟩ hl.1 rfl (Nat.le_of_ble_eq_true rfl) dX9_roofOf_155) ?_
  exact pm_iret hF dX9_roofOf_158 (rfl)

set_option maxHeartbeats 4000000 in
set_option maxRecDepth 100000 in
theorem m_X9_roofOf_7 {X : Cx} {l : Launch} (h0 : Init X) {cm : Nat → Nat} {o : Nat} {σ : Sb} (hO : Ok σ.1)  (x : Int32) (r : Nat) (hxr : x = nI r) (hr : r < σ.1.2 1) : PM X l yX9_roofOf cX9_roofOf 3 (some .int) 1 21 [.ref o, .int x, .int 7] (SBH X cm o σ) (.int (roofV σ.1 r 7)) := by
  subst hxr
  refine Met.mk (Bh := (SBH X cm o σ)) (by decide) (Nat.le_of_ble_eq_true rfl) ?_
  intro p e s m below meth c ls hF hB hl
  obtain ⟨ow, f, g, hz, hob, hsk, hpa, hre, ⟨cw, ew, nu, hcw, hwo⟩, hin, ⟨ln, lc, hln, hli⟩, hi60⟩ := hB
  have hs0 := hsk 0 (by decide)
  have hl : lv_has ls 3 [(0, .ref o), (1, .int (nI r)), (2, .int 7)] := hl
  obtain ⟨hx, hb, hml, hr, hlk, hown, hG⟩ := id hF
  have hK := hG.K h0
  have hS : va_S noA s.heap s.heap [] := va_S.rf
  have hO1 := hO.1
  have hO2 := hO.2.1
  have hO3 := hO.2.2.1
  refine lv_aload_n hx hb dX9_roofOf_0 rfl (lv_at hl 0 rfl) ?_
  refine g_get (ci := 8) (v := .ref (f 0 0)) h0 hF inX9 hob.1 0 rfl rfl 0 (by decide) wf_X9_12 rfl rfl dX9_roofOf_1 ?_
  refine g_get (ci := 4) (v := .ref (f 0 2)) h0 hF inX5 hs0.1 0 rfl rfl 1 (by decide) wf_X9_165 rfl rfl dX9_roofOf_4 ?_
  refine lv_iload_n hx hb dX9_roofOf_7 rfl (lv_at hl 1 rfl) ?_
  refine core_p (v := .int (bI (hasB (σ.1.2 1) (nI r)))) (grV (n := 1) (As := [.int (nI r)]) (rest := []) h0 hF (m_X4_has h0 (f := f 0) (k := σ.1) hO  (nI r)) wm_X9_169 wo_X4_has ws_X4__X4_has wz_X4 wc_X4_has ⟨by decide, by decide, by decide +kernel⟩ rfl ⟨Nat.le_of_ble_eq_true rfl, Nat.le_of_ble_eq_true rfl⟩ (ci := 3) ⟨_, hs0.1 2 _ rfl⟩ rfl hs0.1 hS noA_old ⟨Nat.zero_le _, Nat.zero_le _⟩ hl.1 rfl (Nat.le_of_ble_eq_true rfl) dX9_roofOf_8) ?_
  refine lv_if_ne (tgt := 16) hx hb dX9_roofOf_11 (by decide) (fun c_11 => ?_) (fun c_11 => absurd c_11 (bI_n0.mpr (hasB_nI (by omega) (by omega))))
  have n_11 := bI_n0.mp c_11
  refine lv_iload_n hx hb dX9_roofOf_16 rfl (lv_at hl 2 rfl) ?_
  refine lv_tableIn (x := 7) (off := 142) (tgt := 159) hx hb dX9_roofOf_17 (by decide) (by decide) (by decide) (by decide) ?_
  refine lv_aload_n hx hb dX9_roofOf_159 rfl (lv_at hl 0 rfl) ?_
  refine g_get (ci := 8) (v := .ref (f 0 0)) h0 hF inX9 hob.1 0 rfl rfl 0 (by decide) wf_X9_12 rfl rfl dX9_roofOf_160 ?_
  refine g_get (ci := 4) (v := .ref (f 0 2)) h0 hF inX5 hs0.1 0 rfl rfl 1 (by decide) wf_X9_165 rfl rfl dX9_roofOf_163 ?_
  refine g_get (ci := 3) (v := .ref (f 0 16)) h0 hF inX4 hs0.1 2 rfl rfl 8 (by decide) wf_X9_198 rfl rfl dX9_roofOf_166 ?_
  refine lv_iload_n hx hb dX9_roofOf_169 rfl (lv_at hl 1 rfl) ?_
  refine g_iald hx hb hK hs0.1 16 0 rfl rfl r (rfl) (by omega) (by decide) dX9_roofOf_170 ?_
  exact pm_iret hF dX9_roofOf_171 (rfl)

set_option maxHeartbeats 4000000 in
set_option maxRecDepth 100000 in
theorem m_X9_roofOf_8 {X : Cx} {l : Launch} (h0 : Init X) {cm : Nat → Nat} {o : Nat} {σ : Sb} (hO : Ok σ.1)  (x : Int32) (r : Nat) (hxr : x = nI r) (hr : r < σ.1.2 1) : PM X l yX9_roofOf cX9_roofOf 3 (some .int) 1 21 [.ref o, .int x, .int 8] (SBH X cm o σ) (.int (roofV σ.1 r 8)) := by
  subst hxr
  refine Met.mk (Bh := (SBH X cm o σ)) (by decide) (Nat.le_of_ble_eq_true rfl) ?_
  intro p e s m below meth c ls hF hB hl
  obtain ⟨ow, f, g, hz, hob, hsk, hpa, hre, ⟨cw, ew, nu, hcw, hwo⟩, hin, ⟨ln, lc, hln, hli⟩, hi60⟩ := hB
  have hs0 := hsk 0 (by decide)
  have hl : lv_has ls 3 [(0, .ref o), (1, .int (nI r)), (2, .int 8)] := hl
  obtain ⟨hx, hb, hml, hr, hlk, hown, hG⟩ := id hF
  have hK := hG.K h0
  have hS : va_S noA s.heap s.heap [] := va_S.rf
  have hO1 := hO.1
  have hO2 := hO.2.1
  have hO3 := hO.2.2.1
  refine lv_aload_n hx hb dX9_roofOf_0 rfl (lv_at hl 0 rfl) ?_
  refine g_get (ci := 8) (v := .ref (f 0 0)) h0 hF inX9 hob.1 0 rfl rfl 0 (by decide) wf_X9_12 rfl rfl dX9_roofOf_1 ?_
  refine g_get (ci := 4) (v := .ref (f 0 2)) h0 hF inX5 hs0.1 0 rfl rfl 1 (by decide) wf_X9_165 rfl rfl dX9_roofOf_4 ?_
  refine lv_iload_n hx hb dX9_roofOf_7 rfl (lv_at hl 1 rfl) ?_
  refine core_p (v := .int (bI (hasB (σ.1.2 1) (nI r)))) (grV (n := 1) (As := [.int (nI r)]) (rest := []) h0 hF (m_X4_has h0 (f := f 0) (k := σ.1) hO  (nI r)) wm_X9_169 wo_X4_has ws_X4__X4_has wz_X4 wc_X4_has ⟨by decide, by decide, by decide +kernel⟩ rfl ⟨Nat.le_of_ble_eq_true rfl, Nat.le_of_ble_eq_true rfl⟩ (ci := 3) ⟨_, hs0.1 2 _ rfl⟩ rfl hs0.1 hS noA_old ⟨Nat.zero_le _, Nat.zero_le _⟩ hl.1 rfl (Nat.le_of_ble_eq_true rfl) dX9_roofOf_8) ?_
  refine lv_if_ne (tgt := 16) hx hb dX9_roofOf_11 (by decide) (fun c_11 => ?_) (fun c_11 => absurd c_11 (bI_n0.mpr (hasB_nI (by omega) (by omega))))
  have n_11 := bI_n0.mp c_11
  refine lv_iload_n hx hb dX9_roofOf_16 rfl (lv_at hl 2 rfl) ?_
  refine lv_tableIn (x := 8) (off := 155) (tgt := 172) hx hb dX9_roofOf_17 (by decide) (by decide) (by decide) (by decide) ?_
  refine lv_aload_n hx hb dX9_roofOf_172 rfl (lv_at hl 0 rfl) ?_
  refine g_get (ci := 8) (v := .ref (f 0 0)) h0 hF inX9 hob.1 0 rfl rfl 0 (by decide) wf_X9_12 rfl rfl dX9_roofOf_173 ?_
  refine g_get (ci := 4) (v := .ref (f 0 2)) h0 hF inX5 hs0.1 0 rfl rfl 1 (by decide) wf_X9_165 rfl rfl dX9_roofOf_176 ?_
  refine g_get (ci := 3) (v := .ref (f 0 17)) h0 hF inX4 hs0.1 2 rfl rfl 9 (by decide) wf_X9_201 rfl rfl dX9_roofOf_179 ?_
  refine lv_iload_n hx hb dX9_roofOf_182 rfl (lv_at hl 1 rfl) ?_
  refine g_iald hx hb hK hs0.1 17 0 rfl rfl r (rfl) (by omega) (by decide) dX9_roofOf_183 ?_
  exact pm_iret hF dX9_roofOf_184 (rfl)

set_option maxHeartbeats 4000000 in
set_option maxRecDepth 100000 in
theorem m_X9_wishOf_0 {X : Cx} {l : Launch} (h0 : Init X) {cm : Nat → Nat} {o : Nat} {σ : Sb} (hO : Ok σ.1)  (x : Int32) (w : Nat) (hxw : x = nI w) (hw : w < σ.1.2 2) : PM X l yX9_wishOf cX9_wishOf 3 (some .int) 1 21 [.ref o, .int x, .int 0] (SBH X cm o σ) (.int (wishV σ.1 w 0)) := by
  subst hxw
  refine Met.mk (Bh := (SBH X cm o σ)) (by decide) (Nat.le_of_ble_eq_true rfl) ?_
  intro p e s m below meth c ls hF hB hl
  obtain ⟨ow, f, g, hz, hob, hsk, hpa, hre, ⟨cw, ew, nu, hcw, hwo⟩, hin, ⟨ln, lc, hln, hli⟩, hi60⟩ := hB
  have hs0 := hsk 0 (by decide)
  have hl : lv_has ls 3 [(0, .ref o), (1, .int (nI w)), (2, .int 0)] := hl
  obtain ⟨hx, hb, hml, hr, hlk, hown, hG⟩ := id hF
  have hK := hG.K h0
  have hS : va_S noA s.heap s.heap [] := va_S.rf
  have hO1 := hO.1
  have hO2 := hO.2.1
  have hO3 := hO.2.2.1
  refine lv_aload_n hx hb dX9_wishOf_0 rfl (lv_at hl 0 rfl) ?_
  refine g_get (ci := 8) (v := .ref (f 0 0)) h0 hF inX9 hob.1 0 rfl rfl 0 (by decide) wf_X9_12 rfl rfl dX9_wishOf_1 ?_
  refine g_get (ci := 4) (v := .ref (f 0 3)) h0 hF inX5 hs0.1 0 rfl rfl 2 (by decide) wf_X9_155 rfl rfl dX9_wishOf_4 ?_
  refine lv_iload_n hx hb dX9_wishOf_7 rfl (lv_at hl 1 rfl) ?_
  refine core_p (v := .int (bI (hasB (σ.1.2 2) (nI w)))) (grV (n := 1) (As := [.int (nI w)]) (rest := []) h0 hF (m_X7_has h0 (f := f 0) (k := σ.1) hO  (nI w)) wm_X9_204 wo_X7_has ws_X7__X7_has wz_X7 wc_X7_has ⟨by decide, by decide, by decide +kernel⟩ rfl ⟨Nat.le_of_ble_eq_true rfl, Nat.le_of_ble_eq_true rfl⟩ (ci := 6) ⟨_, hs0.1 3 _ rfl⟩ rfl hs0.1 hS noA_old ⟨Nat.zero_le _, Nat.zero_le _⟩ hl.1 rfl (Nat.le_of_ble_eq_true rfl) dX9_wishOf_8) ?_
  refine lv_if_ne (tgt := 16) hx hb dX9_wishOf_11 (by decide) (fun c_11 => ?_) (fun c_11 => absurd c_11 (bI_n0.mpr (hasB_nI (by omega) (by omega))))
  have n_11 := bI_n0.mp c_11
  refine lv_iload_n hx hb dX9_wishOf_16 rfl (lv_at hl 2 rfl) ?_
  refine lv_tableIn (x := 0) (off := 39) (tgt := 56) hx hb dX9_wishOf_17 (by decide) (by decide) (by decide) (by decide) ?_
  refine lv_aload_n hx hb dX9_wishOf_56 rfl (lv_at hl 0 rfl) ?_
  refine g_get (ci := 8) (v := .ref (f 0 0)) h0 hF inX9 hob.1 0 rfl rfl 0 (by decide) wf_X9_12 rfl rfl dX9_wishOf_57 ?_
  refine g_get (ci := 4) (v := .ref (f 0 3)) h0 hF inX5 hs0.1 0 rfl rfl 2 (by decide) wf_X9_155 rfl rfl dX9_wishOf_60 ?_
  refine g_get (ci := 6) (v := .ref (f 0 18)) h0 hF inX7 hs0.1 3 rfl rfl 1 (by decide) wf_X9_205 rfl rfl dX9_wishOf_63 ?_
  refine lv_iload_n hx hb dX9_wishOf_66 rfl (lv_at hl 1 rfl) ?_
  refine g_iald hx hb hK hs0.1 18 0 rfl rfl w (rfl) (by omega) (by decide) dX9_wishOf_67 ?_
  exact pm_iret hF dX9_wishOf_68 (rfl)

set_option maxHeartbeats 4000000 in
set_option maxRecDepth 100000 in
theorem m_X9_wishOf_1 {X : Cx} {l : Launch} (h0 : Init X) {cm : Nat → Nat} {o : Nat} {σ : Sb} (hO : Ok σ.1)  (x : Int32) (w : Nat) (hxw : x = nI w) (hw : w < σ.1.2 2) : PM X l yX9_wishOf cX9_wishOf 3 (some .int) 1 21 [.ref o, .int x, .int 1] (SBH X cm o σ) (.int (wishV σ.1 w 1)) := by
  subst hxw
  refine Met.mk (Bh := (SBH X cm o σ)) (by decide) (Nat.le_of_ble_eq_true rfl) ?_
  intro p e s m below meth c ls hF hB hl
  obtain ⟨ow, f, g, hz, hob, hsk, hpa, hre, ⟨cw, ew, nu, hcw, hwo⟩, hin, ⟨ln, lc, hln, hli⟩, hi60⟩ := hB
  have hs0 := hsk 0 (by decide)
  have hl : lv_has ls 3 [(0, .ref o), (1, .int (nI w)), (2, .int 1)] := hl
  obtain ⟨hx, hb, hml, hr, hlk, hown, hG⟩ := id hF
  have hK := hG.K h0
  have hS : va_S noA s.heap s.heap [] := va_S.rf
  have hO1 := hO.1
  have hO2 := hO.2.1
  have hO3 := hO.2.2.1
  refine lv_aload_n hx hb dX9_wishOf_0 rfl (lv_at hl 0 rfl) ?_
  refine g_get (ci := 8) (v := .ref (f 0 0)) h0 hF inX9 hob.1 0 rfl rfl 0 (by decide) wf_X9_12 rfl rfl dX9_wishOf_1 ?_
  refine g_get (ci := 4) (v := .ref (f 0 3)) h0 hF inX5 hs0.1 0 rfl rfl 2 (by decide) wf_X9_155 rfl rfl dX9_wishOf_4 ?_
  refine lv_iload_n hx hb dX9_wishOf_7 rfl (lv_at hl 1 rfl) ?_
  refine core_p (v := .int (bI (hasB (σ.1.2 2) (nI w)))) (grV (n := 1) (As := [.int (nI w)]) (rest := []) h0 hF (m_X7_has h0 (f := f 0) (k := σ.1) hO  (nI w)) wm_X9_204 wo_X7_has ws_X7__X7_has wz_X7 wc_X7_has ⟨by decide, by decide, by decide +kernel⟩ rfl ⟨Nat.le_of_ble_eq_true rfl, Nat.le_of_ble_eq_true rfl⟩ (ci := 6) ⟨_, hs0.1 3 _ rfl⟩ rfl hs0.1 hS noA_old ⟨Nat.zero_le _, Nat.zero_le _⟩ hl.1 rfl (Nat.le_of_ble_eq_true rfl) dX9_wishOf_8) ?_
  refine lv_if_ne (tgt := 16) hx hb dX9_wishOf_11 (by decide) (fun c_11 => ?_) (fun c_11 => absurd c_11 (bI_n0.mpr (hasB_nI (by omega) (by omega))))
  have n_11 := bI_n0.mp c_11
  refine lv_iload_n hx hb dX9_wishOf_16 rfl (lv_at hl 2 rfl) ?_
  refine lv_tableIn (x := 1) (off := 52) (tgt := 69) hx hb dX9_wishOf_17 (by decide) (by decide) (by decide) (by decide) ?_
  refine lv_aload_n hx hb dX9_wishOf_69 rfl (lv_at hl 0 rfl) ?_
  refine g_get (ci := 8) (v := .ref (f 0 0)) h0 hF inX9 hob.1 0 rfl rfl 0 (by decide) wf_X9_12 rfl rfl dX9_wishOf_70 ?_
  refine g_get (ci := 4) (v := .ref (f 0 3)) h0 hF inX5 hs0.1 0 rfl rfl 2 (by decide) wf_X9_155 rfl rfl dX9_wishOf_73 ?_
  refine g_get (ci := 6) (v := .ref (f 0 19)) h0 hF inX7 hs0.1 3 rfl rfl 2 (by decide) wf_X9_208 rfl rfl dX9_wishOf_76 ?_
  refine lv_iload_n hx hb dX9_wishOf_79 rfl (lv_at hl 1 rfl) ?_
  refine g_iald hx hb hK hs0.1 19 0 rfl rfl w (rfl) (by omega) (by decide) dX9_wishOf_80 ?_
  exact pm_iret hF dX9_wishOf_81 (rfl)

set_option maxHeartbeats 4000000 in
set_option maxRecDepth 100000 in
theorem m_X9_wishOf_2 {X : Cx} {l : Launch} (h0 : Init X) {cm : Nat → Nat} {o : Nat} {σ : Sb} (hO : Ok σ.1)  (x : Int32) (w : Nat) (hxw : x = nI w) (hw : w < σ.1.2 2) : PM X l yX9_wishOf cX9_wishOf 3 (some .int) 1 21 [.ref o, .int x, .int 2] (SBH X cm o σ) (.int (wishV σ.1 w 2)) := by
  subst hxw
  refine Met.mk (Bh := (SBH X cm o σ)) (by decide) (Nat.le_of_ble_eq_true rfl) ?_
  intro p e s m below meth c ls hF hB hl
  obtain ⟨ow, f, g, hz, hob, hsk, hpa, hre, ⟨cw, ew, nu, hcw, hwo⟩, hin, ⟨ln, lc, hln, hli⟩, hi60⟩ := hB
  have hs0 := hsk 0 (by decide)
  have hl : lv_has ls 3 [(0, .ref o), (1, .int (nI w)), (2, .int 2)] := hl
  obtain ⟨hx, hb, hml, hr, hlk, hown, hG⟩ := id hF
  have hK := hG.K h0
  have hS : va_S noA s.heap s.heap [] := va_S.rf
  have hO1 := hO.1
  have hO2 := hO.2.1
  have hO3 := hO.2.2.1
  refine lv_aload_n hx hb dX9_wishOf_0 rfl (lv_at hl 0 rfl) ?_
  refine g_get (ci := 8) (v := .ref (f 0 0)) h0 hF inX9 hob.1 0 rfl rfl 0 (by decide) wf_X9_12 rfl rfl dX9_wishOf_1 ?_
  refine g_get (ci := 4) (v := .ref (f 0 3)) h0 hF inX5 hs0.1 0 rfl rfl 2 (by decide) wf_X9_155 rfl rfl dX9_wishOf_4 ?_
  refine lv_iload_n hx hb dX9_wishOf_7 rfl (lv_at hl 1 rfl) ?_
  refine core_p (v := .int (bI (hasB (σ.1.2 2) (nI w)))) (grV (n := 1) (As := [.int (nI w)]) (rest := []) h0 hF (m_X7_has h0 (f := f 0) (k := σ.1) hO  (nI w)) wm_X9_204 wo_X7_has ws_X7__X7_has wz_X7 wc_X7_has ⟨by decide, by decide, by decide +kernel⟩ rfl ⟨Nat.le_of_ble_eq_true rfl, Nat.le_of_ble_eq_true rfl⟩ (ci := 6) ⟨_, hs0.1 3 _ rfl⟩ rfl hs0.1 hS noA_old ⟨Nat.zero_le _, Nat.zero_le _⟩ hl.1 rfl (Nat.le_of_ble_eq_true rfl) dX9_wishOf_8) ?_
  refine lv_if_ne (tgt := 16) hx hb dX9_wishOf_11 (by decide) (fun c_11 => ?_) (fun c_11 => absurd c_11 (bI_n0.mpr (hasB_nI (by omega) (by omega))))
  have n_11 := bI_n0.mp c_11
  refine lv_iload_n hx hb dX9_wishOf_16 rfl (lv_at hl 2 rfl) ?_
  refine lv_tableIn (x := 2) (off := 65) (tgt := 82) hx hb dX9_wishOf_17 (by decide) (by decide) (by decide) (by decide) ?_
  refine lv_aload_n hx hb dX9_wishOf_82 rfl (lv_at hl 0 rfl) ?_
  refine g_get (ci := 8) (v := .ref (f 0 0)) h0 hF inX9 hob.1 0 rfl rfl 0 (by decide) wf_X9_12 rfl rfl dX9_wishOf_83 ?_
  refine g_get (ci := 4) (v := .ref (f 0 3)) h0 hF inX5 hs0.1 0 rfl rfl 2 (by decide) wf_X9_155 rfl rfl dX9_wishOf_86 ?_
  refine g_get (ci := 6) (v := .ref (f 0 20)) h0 hF inX7 hs0.1 3 rfl rfl 3 (by decide) wf_X9_211 rfl rfl dX9_wishOf_89 ?_
  refine lv_iload_n hx hb dX9_wishOf_92 rfl (lv_at hl 1 rfl) ?_
  refine g_iald hx hb hK hs0.1 20 0 rfl rfl w (rfl) (by omega) (by decide) dX9_wishOf_93 ?_
  exact pm_iret hF dX9_wishOf_94 (rfl)

set_option maxHeartbeats 4000000 in
set_option maxRecDepth 100000 in
theorem m_X9_wishOf_3 {X : Cx} {l : Launch} (h0 : Init X) {cm : Nat → Nat} {o : Nat} {σ : Sb} (hO : Ok σ.1)  (x : Int32) (w : Nat) (hxw : x = nI w) (hw : w < σ.1.2 2) : PM X l yX9_wishOf cX9_wishOf 3 (some .int) 1 21 [.ref o, .int x, .int 3] (SBH X cm o σ) (.int (wishV σ.1 w 3)) := by
  subst hxw
  refine Met.mk (Bh := (SBH X cm o σ)) (by decide) (Nat.le_of_ble_eq_true rfl) ?_
  intro p e s m below meth c ls hF hB hl
  obtain ⟨ow, f, g, hz, hob, hsk, hpa, hre, ⟨cw, ew, nu, hcw, hwo⟩, hin, ⟨ln, lc, hln, hli⟩, hi60⟩ := hB
  have hs0 := hsk 0 (by decide)
  have hl : lv_has ls 3 [(0, .ref o), (1, .int (nI w)), (2, .int 3)] := hl
  obtain ⟨hx, hb, hml, hr, hlk, hown, hG⟩ := id hF
  have hK := hG.K h0
  have hS : va_S noA s.heap s.heap [] := va_S.rf
  have hO1 := hO.1
  have hO2 := hO.2.1
  have hO3 := hO.2.2.1
  refine lv_aload_n hx hb dX9_wishOf_0 rfl (lv_at hl 0 rfl) ?_
  refine g_get (ci := 8) (v := .ref (f 0 0)) h0 hF inX9 hob.1 0 rfl rfl 0 (by decide) wf_X9_12 rfl rfl dX9_wishOf_1 ?_
  refine g_get (ci := 4) (v := .ref (f 0 3)) h0 hF inX5 hs0.1 0 rfl rfl 2 (by decide) wf_X9_155 rfl rfl dX9_wishOf_4 ?_
  refine lv_iload_n hx hb dX9_wishOf_7 rfl (lv_at hl 1 rfl) ?_
  refine core_p (v := .int (bI (hasB (σ.1.2 2) (nI w)))) (grV (n := 1) (As := [.int (nI w)]) (rest := []) h0 hF (m_X7_has h0 (f := f 0) (k := σ.1) hO  (nI w)) wm_X9_204 wo_X7_has ws_X7__X7_has wz_X7 wc_X7_has ⟨by decide, by decide, by decide +kernel⟩ rfl ⟨Nat.le_of_ble_eq_true rfl, Nat.le_of_ble_eq_true rfl⟩ (ci := 6) ⟨_, hs0.1 3 _ rfl⟩ rfl hs0.1 hS noA_old ⟨Nat.zero_le _, Nat.zero_le _⟩ hl.1 rfl (Nat.le_of_ble_eq_true rfl) dX9_wishOf_8) ?_
  refine lv_if_ne (tgt := 16) hx hb dX9_wishOf_11 (by decide) (fun c_11 => ?_) (fun c_11 => absurd c_11 (bI_n0.mpr (hasB_nI (by omega) (by omega))))
  have n_11 := bI_n0.mp c_11
  refine lv_iload_n hx hb dX9_wishOf_16 rfl (lv_at hl 2 rfl) ?_
  refine lv_tableIn (x := 3) (off := 78) (tgt := 95) hx hb dX9_wishOf_17 (by decide) (by decide) (by decide) (by decide) ?_
  refine lv_aload_n hx hb dX9_wishOf_95 rfl (lv_at hl 0 rfl) ?_
  refine g_get (ci := 8) (v := .ref (f 0 0)) h0 hF inX9 hob.1 0 rfl rfl 0 (by decide) wf_X9_12 rfl rfl dX9_wishOf_96 ?_
  refine g_get (ci := 4) (v := .ref (f 0 3)) h0 hF inX5 hs0.1 0 rfl rfl 2 (by decide) wf_X9_155 rfl rfl dX9_wishOf_99 ?_
  refine g_get (ci := 6) (v := .ref (f 0 21)) h0 hF inX7 hs0.1 3 rfl rfl 4 (by decide) wf_X9_214 rfl rfl dX9_wishOf_102 ?_
  refine lv_iload_n hx hb dX9_wishOf_105 rfl (lv_at hl 1 rfl) ?_
  refine g_iald hx hb hK hs0.1 21 0 rfl rfl w (rfl) (by omega) (by decide) dX9_wishOf_106 ?_
  exact pm_iret hF dX9_wishOf_107 (rfl)

set_option maxHeartbeats 4000000 in
set_option maxRecDepth 100000 in
theorem m_X9_wishOf_4 {X : Cx} {l : Launch} (h0 : Init X) {cm : Nat → Nat} {o : Nat} {σ : Sb} (hO : Ok σ.1)  (x : Int32) (w : Nat) (hxw : x = nI w) (hw : w < σ.1.2 2) : PM X l yX9_wishOf cX9_wishOf 3 (some .int) 1 21 [.ref o, .int x, .int 4] (SBH X cm o σ) (.int (wishV σ.1 w 4)) := by
  subst hxw
  refine Met.mk (Bh := (SBH X cm o σ)) (by decide) (Nat.le_of_ble_eq_true rfl) ?_
  intro p e s m below meth c ls hF hB hl
  obtain ⟨ow, f, g, hz, hob, hsk, hpa, hre, ⟨cw, ew, nu, hcw, hwo⟩, hin, ⟨ln, lc, hln, hli⟩, hi60⟩ := hB
  have hs0 := hsk 0 (by decide)
  have hl : lv_has ls 3 [(0, .ref o), (1, .int (nI w)), (2, .int 4)] := hl
  obtain ⟨hx, hb, hml, hr, hlk, hown, hG⟩ := id hF
  have hK := hG.K h0
  have hS : va_S noA s.heap s.heap [] := va_S.rf
  have hO1 := hO.1
  have hO2 := hO.2.1
  have hO3 := hO.2.2.1
  refine lv_aload_n hx hb dX9_wishOf_0 rfl (lv_at hl 0 rfl) ?_
  refine g_get (ci := 8) (v := .ref (f 0 0)) h0 hF inX9 hob.1 0 rfl rfl 0 (by decide) wf_X9_12 rfl rfl dX9_wishOf_1 ?_
  refine g_get (ci := 4) (v := .ref (f 0 3)) h0 hF inX5 hs0.1 0 rfl rfl 2 (by decide) wf_X9_155 rfl rfl dX9_wishOf_4 ?_
  refine lv_iload_n hx hb dX9_wishOf_7 rfl (lv_at hl 1 rfl) ?_
  refine core_p (v := .int (bI (hasB (σ.1.2 2) (nI w)))) (grV (n := 1) (As := [.int (nI w)]) (rest := []) h0 hF (m_X7_has h0 (f := f 0) (k := σ.1) hO  (nI w)) wm_X9_204 wo_X7_has ws_X7__X7_has wz_X7 wc_X7_has ⟨by decide, by decide, by decide +kernel⟩ rfl ⟨Nat.le_of_ble_eq_true rfl, Nat.le_of_ble_eq_true rfl⟩ (ci := 6) ⟨_, hs0.1 3 _ rfl⟩ rfl hs0.1 hS noA_old ⟨Nat.zero_le _, Nat.zero_le _⟩ hl.1 rfl (Nat.le_of_ble_eq_true rfl) dX9_wishOf_8) ?_
  refine lv_if_ne (tgt := 16) hx hb dX9_wishOf_11 (by decide) (fun c_11 => ?_) (fun c_11 => absurd c_11 (bI_n0.mpr (hasB_nI (by omega) (by omega))))
  have n_11 := bI_n0.mp c_11
  refine lv_iload_n hx hb dX9_wishOf_16 rfl (lv_at hl 2 rfl) ?_
  refine lv_tableIn (x := 4) (off := 91) (tgt := 108) hx hb dX9_wishOf_17 (by decide) (by decide) (by decide) (by decide) ?_
  refine lv_aload_n hx hb dX9_wishOf_108 rfl (lv_at hl 0 rfl) ?_
  refine g_get (ci := 8) (v := .ref (f 0 0)) h0 hF inX9 hob.1 0 rfl rfl 0 (by decide) wf_X9_12 rfl rfl dX9_wishOf_109 ?_
  refine g_get (ci := 4) (v := .ref (f 0 3)) h0 hF inX5 hs0.1 0 rfl rfl 2 (by decide) wf_X9_155 rfl rfl dX9_wishOf_112 ?_
  refine g_get (ci := 6) (v := .ref (f 0 22)) h0 hF inX7 hs0.1 3 rfl rfl 5 (by decide) wf_X9_217 rfl rfl dX9_wishOf_115 ?_
  refine lv_iload_n hx hb dX9_wishOf_118 rfl (lv_at hl 1 rfl) ?_
  refine g_iald hx hb hK hs0.1 22 0 rfl rfl w (rfl) (by omega) (by decide) dX9_wishOf_119 ?_
  exact pm_iret hF dX9_wishOf_120 (rfl)

set_option maxHeartbeats 4000000 in
set_option maxRecDepth 100000 in
theorem m_X9_wishOf_5 {X : Cx} {l : Launch} (h0 : Init X) {cm : Nat → Nat} {o : Nat} {σ : Sb} (hO : Ok σ.1)  (x : Int32) (w : Nat) (hxw : x = nI w) (hw : w < σ.1.2 2) : PM X l yX9_wishOf cX9_wishOf 3 (some .int) 1 21 [.ref o, .int x, .int 5] (SBH X cm o σ) (.int (wishV σ.1 w 5)) := by
  subst hxw
  refine Met.mk (Bh := (SBH X cm o σ)) (by decide) (Nat.le_of_ble_eq_true rfl) ?_
  intro p e s m below meth c ls hF hB hl
  obtain ⟨ow, f, g, hz, hob, hsk, hpa, hre, ⟨cw, ew, nu, hcw, hwo⟩, hin, ⟨ln, lc, hln, hli⟩, hi60⟩ := hB
  have hs0 := hsk 0 (by decide)
  have hl : lv_has ls 3 [(0, .ref o), (1, .int (nI w)), (2, .int 5)] := hl
  obtain ⟨hx, hb, hml, hr, hlk, hown, hG⟩ := id hF
  have hK := hG.K h0
  have hS : va_S noA s.heap s.heap [] := va_S.rf
  have hO1 := hO.1
  have hO2 := hO.2.1
  have hO3 := hO.2.2.1
  refine lv_aload_n hx hb dX9_wishOf_0 rfl (lv_at hl 0 rfl) ?_
  refine g_get (ci := 8) (v := .ref (f 0 0)) h0 hF inX9 hob.1 0 rfl rfl 0 (by decide) wf_X9_12 rfl rfl dX9_wishOf_1 ?_
  refine g_get (ci := 4) (v := .ref (f 0 3)) h0 hF inX5 hs0.1 0 rfl rfl 2 (by decide) wf_X9_155 rfl rfl dX9_wishOf_4 ?_
  refine lv_iload_n hx hb dX9_wishOf_7 rfl (lv_at hl 1 rfl) ?_
  refine core_p (v := .int (bI (hasB (σ.1.2 2) (nI w)))) (grV (n := 1) (As := [.int (nI w)]) (rest := []) h0 hF (m_X7_has h0 (f := f 0) (k := σ.1) hO  (nI w)) wm_X9_204 wo_X7_has ws_X7__X7_has wz_X7 wc_X7_has ⟨by decide, by decide, by decide +kernel⟩ rfl ⟨Nat.le_of_ble_eq_true rfl, Nat.le_of_ble_eq_true rfl⟩ (ci := 6) ⟨_, hs0.1 3 _ rfl⟩ rfl hs0.1 hS noA_old ⟨Nat.zero_le _, Nat.zero_le _⟩ hl.1 rfl (Nat.le_of_ble_eq_true rfl) dX9_wishOf_8) ?_
  refine lv_if_ne (tgt := 16) hx hb dX9_wishOf_11 (by decide) (fun c_11 => ?_) (fun c_11 => absurd c_11 (bI_n0.mpr (hasB_nI (by omega) (by omega))))
  have n_11 := bI_n0.mp c_11
  refine lv_iload_n hx hb dX9_wishOf_16 rfl (lv_at hl 2 rfl) ?_
  refine lv_tableIn (x := 5) (off := 104) (tgt := 121) hx hb dX9_wishOf_17 (by decide) (by decide) (by decide) (by decide) ?_
  refine lv_aload_n hx hb dX9_wishOf_121 rfl (lv_at hl 0 rfl) ?_
  refine g_get (ci := 8) (v := .ref (f 0 0)) h0 hF inX9 hob.1 0 rfl rfl 0 (by decide) wf_X9_12 rfl rfl dX9_wishOf_122 ?_
  refine g_get (ci := 4) (v := .ref (f 0 3)) h0 hF inX5 hs0.1 0 rfl rfl 2 (by decide) wf_X9_155 rfl rfl dX9_wishOf_125 ?_
  refine lv_iload_n hx hb dX9_wishOf_128 rfl (lv_at hl 1 rfl) ?_
  refine core_p (v := .int (bI (isImp σ.1 w))) (grV (n := 1) (As := [.int (nI w)]) (rest := []) h0 hF (m_X7_isImpounded h0 (f := f 0) (k := σ.1) hO  (nI w) w rfl (by omega)) wm_X9_220 wo_X7_isImpounded ws_X7__X7_isImpounded wz_X7 wc_X7_isImpounded ⟨by decide, by decide, by decide +kernel⟩ rfl ⟨Nat.le_of_ble_eq_true rfl, Nat.le_of_ble_eq_true rfl⟩ (ci := 6) ⟨_, hs0.1 3 _ rfl⟩ rfl hs0.1 hS noA_old ⟨Nat.zero_le _, Nat.zero_le _⟩ hl.1 rfl (Nat.le_of_ble_eq_true rfl) dX9_wishOf_129) ?_
  refine lv_if_eq (tgt := 146) hx hb dX9_wishOf_132 (by decide) (fun c_132 => ?_) (fun c_132 => ?_)
  · have n_132 := bI_0.mp c_132
    refine lv_bipush (v := (-4)) hx hb dX9_wishOf_146 (by decide) ?_
    exact pm_iret hF dX9_wishOf_148 (by simp [wishV, n_11, n_132])
  · have n_132 := bI_n0.mp c_132
    refine lv_aload_n hx hb dX9_wishOf_135 rfl (lv_at hl 0 rfl) ?_
    refine g_get (ci := 8) (v := .ref (f 0 0)) h0 hF inX9 hob.1 0 rfl rfl 0 (by decide) wf_X9_12 rfl rfl dX9_wishOf_136 ?_
    refine lv_iload_n hx hb dX9_wishOf_139 rfl (lv_at hl 1 rfl) ?_
    refine core_p (v := .int (cost σ.1 w)) (grV (n := 1) (As := [.int (nI w)]) (rest := []) h0 hF (m_X5_costToRedeem h0 (f := f 0) (k := σ.1) hO  (nI w) w rfl (by omega)) wm_X9_223 wo_X5_costToRedeem ws_X5__X5_costToRedeem wz_X5 wc_X5_costToRedeem ⟨by decide, by decide, by decide +kernel⟩ rfl ⟨Nat.le_of_ble_eq_true rfl, Nat.le_of_ble_eq_true rfl⟩ (ci := 4) ⟨_, hs0.1 0 _ rfl⟩ rfl hs0.1 hS noA_old ⟨Nat.zero_le _, Nat.zero_le _⟩ hl.1 rfl (Nat.le_of_ble_eq_true rfl) dX9_wishOf_140) ?_
    refine lv_goto (tgt := 148) hx hb dX9_wishOf_143 (by decide) ?_
    exact pm_iret hF dX9_wishOf_148 (by simp [wishV, n_11, n_132])

set_option maxHeartbeats 4000000 in
set_option maxRecDepth 100000 in
theorem m_X9_account_0 {X : Cx} {l : Launch} (h0 : Init X) {cm : Nat → Nat} {o : Nat} {σ : Sb} (hO : Ok σ.1)   : PM X l yX9_account cX9_account 2 (some .int) 0 0 [.ref o, .int 0] (SBH X cm o σ) (.int (accV σ.1 0)) := by
  refine Met.mk (Bh := (SBH X cm o σ)) (by decide) (Nat.le_of_ble_eq_true rfl) ?_
  intro p e s m below meth c ls hF hB hl
  obtain ⟨ow, f, g, hz, hob, hsk, hpa, hre, ⟨cw, ew, nu, hcw, hwo⟩, hin, ⟨ln, lc, hln, hli⟩, hi60⟩ := hB
  have hs0 := hsk 0 (by decide)
  have hl : lv_has ls 2 [(0, .ref o), (1, .int 0)] := hl
  obtain ⟨hx, hb, hml, hr, hlk, hown, hG⟩ := id hF
  have hK := hG.K h0
  have hS : va_S noA s.heap s.heap [] := va_S.rf
  have hO1 := hO.1
  have hO2 := hO.2.1
  have hO3 := hO.2.2.1
  refine lv_iload_n hx hb dX9_account_0 rfl (lv_at hl 1 rfl) ?_
  refine lv_tableIn (x := 0) (off := 71) (tgt := 72) hx hb dX9_account_1 (by decide) (by decide) (by decide) (by decide) ?_
  refine lv_aload_n hx hb dX9_account_72 rfl (lv_at hl 0 rfl) ?_
  refine g_get (ci := 8) (v := .ref (f 0 0)) h0 hF inX9 hob.1 0 rfl rfl 0 (by decide) wf_X9_12 rfl rfl dX9_account_73 ?_
  refine g_get (ci := 4) (v := .ref (f 0 1)) h0 hF inX5 hs0.1 0 rfl rfl 0 (by decide) wf_X9_54 rfl rfl dX9_account_76 ?_
  refine g_get (ci := 5) (v := .int (nI (σ.1.2 0))) h0 hF inX6 hs0.1 1 rfl rfl 0 (by decide) wf_X9_58 rfl rfl dX9_account_79 ?_
  exact pm_iret hF dX9_account_82 (rfl)

set_option maxHeartbeats 4000000 in
set_option maxRecDepth 100000 in
theorem m_X9_account_1 {X : Cx} {l : Launch} (h0 : Init X) {cm : Nat → Nat} {o : Nat} {σ : Sb} (hO : Ok σ.1)   : PM X l yX9_account cX9_account 2 (some .int) 0 0 [.ref o, .int 1] (SBH X cm o σ) (.int (accV σ.1 1)) := by
  refine Met.mk (Bh := (SBH X cm o σ)) (by decide) (Nat.le_of_ble_eq_true rfl) ?_
  intro p e s m below meth c ls hF hB hl
  obtain ⟨ow, f, g, hz, hob, hsk, hpa, hre, ⟨cw, ew, nu, hcw, hwo⟩, hin, ⟨ln, lc, hln, hli⟩, hi60⟩ := hB
  have hs0 := hsk 0 (by decide)
  have hl : lv_has ls 2 [(0, .ref o), (1, .int 1)] := hl
  obtain ⟨hx, hb, hml, hr, hlk, hown, hG⟩ := id hF
  have hK := hG.K h0
  have hS : va_S noA s.heap s.heap [] := va_S.rf
  have hO1 := hO.1
  have hO2 := hO.2.1
  have hO3 := hO.2.2.1
  refine lv_iload_n hx hb dX9_account_0 rfl (lv_at hl 1 rfl) ?_
  refine lv_tableIn (x := 1) (off := 82) (tgt := 83) hx hb dX9_account_1 (by decide) (by decide) (by decide) (by decide) ?_
  refine lv_aload_n hx hb dX9_account_83 rfl (lv_at hl 0 rfl) ?_
  refine g_get (ci := 8) (v := .ref (f 0 0)) h0 hF inX9 hob.1 0 rfl rfl 0 (by decide) wf_X9_12 rfl rfl dX9_account_84 ?_
  refine g_get (ci := 4) (v := .ref (f 0 2)) h0 hF inX5 hs0.1 0 rfl rfl 1 (by decide) wf_X9_165 rfl rfl dX9_account_87 ?_
  refine g_get (ci := 3) (v := .int (nI (σ.1.2 1))) h0 hF inX4 hs0.1 2 rfl rfl 0 (by decide) wf_X9_287 rfl rfl dX9_account_90 ?_
  exact pm_iret hF dX9_account_93 (rfl)

set_option maxHeartbeats 4000000 in
set_option maxRecDepth 100000 in
theorem m_X9_account_2 {X : Cx} {l : Launch} (h0 : Init X) {cm : Nat → Nat} {o : Nat} {σ : Sb} (hO : Ok σ.1)   : PM X l yX9_account cX9_account 2 (some .int) 0 0 [.ref o, .int 2] (SBH X cm o σ) (.int (accV σ.1 2)) := by
  refine Met.mk (Bh := (SBH X cm o σ)) (by decide) (Nat.le_of_ble_eq_true rfl) ?_
  intro p e s m below meth c ls hF hB hl
  obtain ⟨ow, f, g, hz, hob, hsk, hpa, hre, ⟨cw, ew, nu, hcw, hwo⟩, hin, ⟨ln, lc, hln, hli⟩, hi60⟩ := hB
  have hs0 := hsk 0 (by decide)
  have hl : lv_has ls 2 [(0, .ref o), (1, .int 2)] := hl
  obtain ⟨hx, hb, hml, hr, hlk, hown, hG⟩ := id hF
  have hK := hG.K h0
  have hS : va_S noA s.heap s.heap [] := va_S.rf
  have hO1 := hO.1
  have hO2 := hO.2.1
  have hO3 := hO.2.2.1
  refine lv_iload_n hx hb dX9_account_0 rfl (lv_at hl 1 rfl) ?_
  refine lv_tableIn (x := 2) (off := 93) (tgt := 94) hx hb dX9_account_1 (by decide) (by decide) (by decide) (by decide) ?_
  refine lv_aload_n hx hb dX9_account_94 rfl (lv_at hl 0 rfl) ?_
  refine g_get (ci := 8) (v := .ref (f 0 0)) h0 hF inX9 hob.1 0 rfl rfl 0 (by decide) wf_X9_12 rfl rfl dX9_account_95 ?_
  refine g_get (ci := 4) (v := .ref (f 0 3)) h0 hF inX5 hs0.1 0 rfl rfl 2 (by decide) wf_X9_155 rfl rfl dX9_account_98 ?_
  refine g_get (ci := 6) (v := .int (nI (σ.1.2 2))) h0 hF inX7 hs0.1 3 rfl rfl 0 (by decide) wf_X9_311 rfl rfl dX9_account_101 ?_
  exact pm_iret hF dX9_account_104 (rfl)

set_option maxHeartbeats 4000000 in
set_option maxRecDepth 100000 in
theorem m_X9_account_3 {X : Cx} {l : Launch} (h0 : Init X) {cm : Nat → Nat} {o : Nat} {σ : Sb} (hO : Ok σ.1)   : PM X l yX9_account cX9_account 2 (some .int) 2 44 [.ref o, .int 3] (SBH X cm o σ) (.int (accV σ.1 3)) := by
  refine Met.mk (Bh := (SBH X cm o σ)) (by decide) (Nat.le_of_ble_eq_true rfl) ?_
  intro p e s m below meth c ls hF hB hl
  obtain ⟨ow, f, g, hz, hob, hsk, hpa, hre, ⟨cw, ew, nu, hcw, hwo⟩, hin, ⟨ln, lc, hln, hli⟩, hi60⟩ := hB
  have hs0 := hsk 0 (by decide)
  have hl : lv_has ls 2 [(0, .ref o), (1, .int 3)] := hl
  obtain ⟨hx, hb, hml, hr, hlk, hown, hG⟩ := id hF
  have hK := hG.K h0
  have hS : va_S noA s.heap s.heap [] := va_S.rf
  have hO1 := hO.1
  have hO2 := hO.2.1
  have hO3 := hO.2.2.1
  refine lv_iload_n hx hb dX9_account_0 rfl (lv_at hl 1 rfl) ?_
  refine lv_tableIn (x := 3) (off := 104) (tgt := 105) hx hb dX9_account_1 (by decide) (by decide) (by decide) (by decide) ?_
  refine lv_aload_n hx hb dX9_account_105 rfl (lv_at hl 0 rfl) ?_
  refine g_get (ci := 8) (v := .ref (f 0 0)) h0 hF inX9 hob.1 0 rfl rfl 0 (by decide) wf_X9_12 rfl rfl dX9_account_106 ?_
  refine g_get (ci := 4) (v := .ref (f 0 3)) h0 hF inX5 hs0.1 0 rfl rfl 2 (by decide) wf_X9_155 rfl rfl dX9_account_109 ?_
  refine core_p (v := .int (nI (σ.1.2 2) - nI (cN (fun z => decide (σ.1.1 18 z = -4)) (σ.1.2 2)))) (grV (n := 0) (As := []) (rest := []) h0 hF (m_X7_countImpounded h0 (f := f 0) (k := σ.1) hO  ) wm_X9_312 wo_X7_countImpounded ws_X7__X7_countImpounded wz_X7 wc_X7_countImpounded ⟨by decide, by decide, by decide +kernel⟩ rfl ⟨Nat.le_of_ble_eq_true rfl, Nat.le_of_ble_eq_true rfl⟩ (ci := 6) ⟨_, hs0.1 3 _ rfl⟩ rfl hs0.1 hS noA_old ⟨Nat.zero_le _, Nat.zero_le _⟩ hl.1 rfl (Nat.le_of_ble_eq_true rfl) dX9_account_112) ?_
  exact pm_iret hF dX9_account_115 (rfl)

set_option maxHeartbeats 4000000 in
set_option maxRecDepth 100000 in
theorem m_X9_account_4 {X : Cx} {l : Launch} (h0 : Init X) {cm : Nat → Nat} {o : Nat} {σ : Sb} (hO : Ok σ.1)   : PM X l yX9_account cX9_account 2 (some .int) 2 44 [.ref o, .int 4] (SBH X cm o σ) (.int (accV σ.1 4)) := by
  refine Met.mk (Bh := (SBH X cm o σ)) (by decide) (Nat.le_of_ble_eq_true rfl) ?_
  intro p e s m below meth c ls hF hB hl
  obtain ⟨ow, f, g, hz, hob, hsk, hpa, hre, ⟨cw, ew, nu, hcw, hwo⟩, hin, ⟨ln, lc, hln, hli⟩, hi60⟩ := hB
  have hs0 := hsk 0 (by decide)
  have hl : lv_has ls 2 [(0, .ref o), (1, .int 4)] := hl
  obtain ⟨hx, hb, hml, hr, hlk, hown, hG⟩ := id hF
  have hK := hG.K h0
  have hS : va_S noA s.heap s.heap [] := va_S.rf
  have hO1 := hO.1
  have hO2 := hO.2.1
  have hO3 := hO.2.2.1
  refine lv_iload_n hx hb dX9_account_0 rfl (lv_at hl 1 rfl) ?_
  refine lv_tableIn (x := 4) (off := 115) (tgt := 116) hx hb dX9_account_1 (by decide) (by decide) (by decide) (by decide) ?_
  refine lv_aload_n hx hb dX9_account_116 rfl (lv_at hl 0 rfl) ?_
  refine g_get (ci := 8) (v := .ref (f 0 0)) h0 hF inX9 hob.1 0 rfl rfl 0 (by decide) wf_X9_12 rfl rfl dX9_account_117 ?_
  refine g_get (ci := 4) (v := .ref (f 0 1)) h0 hF inX5 hs0.1 0 rfl rfl 0 (by decide) wf_X9_54 rfl rfl dX9_account_120 ?_
  refine core_p (v := .int (nI (σ.1.2 0) - nI (cN (fun z => decide (σ.1.1 2 z = -4)) (σ.1.2 0)))) (grV (n := 0) (As := []) (rest := []) h0 hF (m_X6_countClaimed h0 (f := f 0) (k := σ.1) hO  ) wm_X9_315 wo_X6_countClaimed ws_X6__X6_countClaimed wz_X6 wc_X6_countClaimed ⟨by decide, by decide, by decide +kernel⟩ rfl ⟨Nat.le_of_ble_eq_true rfl, Nat.le_of_ble_eq_true rfl⟩ (ci := 5) ⟨_, hs0.1 1 _ rfl⟩ rfl hs0.1 hS noA_old ⟨Nat.zero_le _, Nat.zero_le _⟩ hl.1 rfl (Nat.le_of_ble_eq_true rfl) dX9_account_123) ?_
  exact pm_iret hF dX9_account_126 (rfl)

set_option maxHeartbeats 4000000 in
set_option maxRecDepth 100000 in
theorem m_X9_account_5 {X : Cx} {l : Launch} (h0 : Init X) {cm : Nat → Nat} {o : Nat} {σ : Sb} (hO : Ok σ.1)   : PM X l yX9_account cX9_account 2 (some .int) 0 0 [.ref o, .int 5] (SBH X cm o σ) (.int (accV σ.1 5)) := by
  refine Met.mk (Bh := (SBH X cm o σ)) (by decide) (Nat.le_of_ble_eq_true rfl) ?_
  intro p e s m below meth c ls hF hB hl
  obtain ⟨ow, f, g, hz, hob, hsk, hpa, hre, ⟨cw, ew, nu, hcw, hwo⟩, hin, ⟨ln, lc, hln, hli⟩, hi60⟩ := hB
  have hs0 := hsk 0 (by decide)
  have hl : lv_has ls 2 [(0, .ref o), (1, .int 5)] := hl
  obtain ⟨hx, hb, hml, hr, hlk, hown, hG⟩ := id hF
  have hK := hG.K h0
  have hS : va_S noA s.heap s.heap [] := va_S.rf
  have hO1 := hO.1
  have hO2 := hO.2.1
  have hO3 := hO.2.2.1
  refine lv_iload_n hx hb dX9_account_0 rfl (lv_at hl 1 rfl) ?_
  refine lv_tableIn (x := 5) (off := 126) (tgt := 127) hx hb dX9_account_1 (by decide) (by decide) (by decide) (by decide) ?_
  refine lv_aload_n hx hb dX9_account_127 rfl (lv_at hl 0 rfl) ?_
  refine g_get (ci := 8) (v := .ref (f 0 0)) h0 hF inX9 hob.1 0 rfl rfl 0 (by decide) wf_X9_12 rfl rfl dX9_account_128 ?_
  refine g_get (ci := 4) (v := .int (σ.1.1 19 0)) h0 hF inX5 hs0.1 0 rfl rfl 3 (by decide) wf_X9_318 rfl rfl dX9_account_131 ?_
  exact pm_iret hF dX9_account_134 (rfl)

set_option maxHeartbeats 4000000 in
set_option maxRecDepth 100000 in
theorem m_X9_account_6 {X : Cx} {l : Launch} (h0 : Init X) {cm : Nat → Nat} {o : Nat} {σ : Sb} (hO : Ok σ.1)   : PM X l yX9_account cX9_account 2 (some .int) 1 23 [.ref o, .int 6] (SBH X cm o σ) (.int (accV σ.1 6)) := by
  refine Met.mk (Bh := (SBH X cm o σ)) (by decide) (Nat.le_of_ble_eq_true rfl) ?_
  intro p e s m below meth c ls hF hB hl
  obtain ⟨ow, f, g, hz, hob, hsk, hpa, hre, ⟨cw, ew, nu, hcw, hwo⟩, hin, ⟨ln, lc, hln, hli⟩, hi60⟩ := hB
  have hs0 := hsk 0 (by decide)
  have hl : lv_has ls 2 [(0, .ref o), (1, .int 6)] := hl
  obtain ⟨hx, hb, hml, hr, hlk, hown, hG⟩ := id hF
  have hK := hG.K h0
  have hS : va_S noA s.heap s.heap [] := va_S.rf
  have hO1 := hO.1
  have hO2 := hO.2.1
  have hO3 := hO.2.2.1
  refine lv_iload_n hx hb dX9_account_0 rfl (lv_at hl 1 rfl) ?_
  refine lv_tableIn (x := 6) (off := 134) (tgt := 135) hx hb dX9_account_1 (by decide) (by decide) (by decide) (by decide) ?_
  refine lv_aload_n hx hb dX9_account_135 rfl (lv_at hl 0 rfl) ?_
  refine g_get (ci := 8) (v := .ref (f 0 0)) h0 hF inX9 hob.1 0 rfl rfl 0 (by decide) wf_X9_12 rfl rfl dX9_account_136 ?_
  refine g_get (ci := 4) (v := .ref (f 0 1)) h0 hF inX5 hs0.1 0 rfl rfl 0 (by decide) wf_X9_54 rfl rfl dX9_account_139 ?_
  refine g_get (ci := 5) (v := .ref (f 0 7)) h0 hF inX6 hs0.1 1 rfl rfl 4 (by decide) wf_X9_152 rfl rfl dX9_account_142 ?_
  refine lv_aload_n hx hb dX9_account_145 rfl (lv_at hl 0 rfl) ?_
  refine g_get (ci := 8) (v := .ref (f 0 0)) h0 hF inX9 hob.1 0 rfl rfl 0 (by decide) wf_X9_12 rfl rfl dX9_account_146 ?_
  refine g_get (ci := 4) (v := .ref (f 0 1)) h0 hF inX5 hs0.1 0 rfl rfl 0 (by decide) wf_X9_54 rfl rfl dX9_account_149 ?_
  refine g_get (ci := 5) (v := .int (nI (σ.1.2 0))) h0 hF inX6 hs0.1 1 rfl rfl 0 (by decide) wf_X9_58 rfl rfl dX9_account_152 ?_
  refine core_p (v := .int (sI (σ.1.1 3) (σ.1.2 0))) (grS (n := 2) (As := [.ref (f 0 7), .int (nI (σ.1.2 0))]) (rest := []) h0 hF (m_X9_sum h0 (a := f 0 7) (N := 8) (F := σ.1.1 3) (σ.1.2 0) (by omega) (by omega) ) wm_X9_305 wt_X9_sum wz_X9 wc_X9_sum ⟨by decide, by decide, by decide +kernel⟩ rfl ⟨Nat.le_of_ble_eq_true rfl, Nat.le_of_ble_eq_true rfl⟩ (hs0.1.sub [7] rfl) hS noA_old ⟨Nat.zero_le _, Nat.zero_le _⟩ hl.1 rfl (Nat.le_of_ble_eq_true rfl) dX9_account_155) ?_
  exact pm_iret hF dX9_account_158 (rfl)

set_option maxHeartbeats 4000000 in
set_option maxRecDepth 100000 in
theorem m_X9_account_7 {X : Cx} {l : Launch} (h0 : Init X) {cm : Nat → Nat} {o : Nat} {σ : Sb} (hO : Ok σ.1)   : PM X l yX9_account cX9_account 2 (some .int) 0 0 [.ref o, .int 7] (SBH X cm o σ) (.int (accV σ.1 7)) := by
  refine Met.mk (Bh := (SBH X cm o σ)) (by decide) (Nat.le_of_ble_eq_true rfl) ?_
  intro p e s m below meth c ls hF hB hl
  obtain ⟨ow, f, g, hz, hob, hsk, hpa, hre, ⟨cw, ew, nu, hcw, hwo⟩, hin, ⟨ln, lc, hln, hli⟩, hi60⟩ := hB
  have hs0 := hsk 0 (by decide)
  have hl : lv_has ls 2 [(0, .ref o), (1, .int 7)] := hl
  obtain ⟨hx, hb, hml, hr, hlk, hown, hG⟩ := id hF
  have hK := hG.K h0
  have hS : va_S noA s.heap s.heap [] := va_S.rf
  have hO1 := hO.1
  have hO2 := hO.2.1
  have hO3 := hO.2.2.1
  refine lv_iload_n hx hb dX9_account_0 rfl (lv_at hl 1 rfl) ?_
  refine lv_tableIn (x := 7) (off := 158) (tgt := 159) hx hb dX9_account_1 (by decide) (by decide) (by decide) (by decide) ?_
  refine lv_aload_n hx hb dX9_account_159 rfl (lv_at hl 0 rfl) ?_
  refine g_get (ci := 8) (v := .ref (f 0 0)) h0 hF inX9 hob.1 0 rfl rfl 0 (by decide) wf_X9_12 rfl rfl dX9_account_160 ?_
  refine g_get (ci := 4) (v := .int (σ.1.1 19 1)) h0 hF inX5 hs0.1 0 rfl rfl 4 (by decide) wf_X9_321 rfl rfl dX9_account_163 ?_
  exact pm_iret hF dX9_account_166 (rfl)

set_option maxHeartbeats 4000000 in
set_option maxRecDepth 100000 in
theorem m_X9_account_8 {X : Cx} {l : Launch} (h0 : Init X) {cm : Nat → Nat} {o : Nat} {σ : Sb} (hO : Ok σ.1)   : PM X l yX9_account cX9_account 2 (some .int) 1 23 [.ref o, .int 8] (SBH X cm o σ) (.int (accV σ.1 8)) := by
  refine Met.mk (Bh := (SBH X cm o σ)) (by decide) (Nat.le_of_ble_eq_true rfl) ?_
  intro p e s m below meth c ls hF hB hl
  obtain ⟨ow, f, g, hz, hob, hsk, hpa, hre, ⟨cw, ew, nu, hcw, hwo⟩, hin, ⟨ln, lc, hln, hli⟩, hi60⟩ := hB
  have hs0 := hsk 0 (by decide)
  have hl : lv_has ls 2 [(0, .ref o), (1, .int 8)] := hl
  obtain ⟨hx, hb, hml, hr, hlk, hown, hG⟩ := id hF
  have hK := hG.K h0
  have hS : va_S noA s.heap s.heap [] := va_S.rf
  have hO1 := hO.1
  have hO2 := hO.2.1
  have hO3 := hO.2.2.1
  refine lv_iload_n hx hb dX9_account_0 rfl (lv_at hl 1 rfl) ?_
  refine lv_tableIn (x := 8) (off := 166) (tgt := 167) hx hb dX9_account_1 (by decide) (by decide) (by decide) (by decide) ?_
  refine lv_aload_n hx hb dX9_account_167 rfl (lv_at hl 0 rfl) ?_
  refine g_get (ci := 8) (v := .ref (f 0 0)) h0 hF inX9 hob.1 0 rfl rfl 0 (by decide) wf_X9_12 rfl rfl dX9_account_168 ?_
  refine g_get (ci := 4) (v := .ref (f 0 2)) h0 hF inX5 hs0.1 0 rfl rfl 1 (by decide) wf_X9_165 rfl rfl dX9_account_171 ?_
  refine g_get (ci := 3) (v := .ref (f 0 12)) h0 hF inX4 hs0.1 2 rfl rfl 4 (by decide) wf_X9_235 rfl rfl dX9_account_174 ?_
  refine lv_aload_n hx hb dX9_account_177 rfl (lv_at hl 0 rfl) ?_
  refine g_get (ci := 8) (v := .ref (f 0 0)) h0 hF inX9 hob.1 0 rfl rfl 0 (by decide) wf_X9_12 rfl rfl dX9_account_178 ?_
  refine g_get (ci := 4) (v := .ref (f 0 2)) h0 hF inX5 hs0.1 0 rfl rfl 1 (by decide) wf_X9_165 rfl rfl dX9_account_181 ?_
  refine g_get (ci := 3) (v := .int (nI (σ.1.2 1))) h0 hF inX4 hs0.1 2 rfl rfl 0 (by decide) wf_X9_287 rfl rfl dX9_account_184 ?_
  refine core_p (v := .int (sI (σ.1.1 8) (σ.1.2 1))) (grS (n := 2) (As := [.ref (f 0 12), .int (nI (σ.1.2 1))]) (rest := []) h0 hF (m_X9_sum h0 (a := f 0 12) (N := 5) (F := σ.1.1 8) (σ.1.2 1) (by omega) (by omega) ) wm_X9_305 wt_X9_sum wz_X9 wc_X9_sum ⟨by decide, by decide, by decide +kernel⟩ rfl ⟨Nat.le_of_ble_eq_true rfl, Nat.le_of_ble_eq_true rfl⟩ (hs0.1.sub [12] rfl) hS noA_old ⟨Nat.zero_le _, Nat.zero_le _⟩ hl.1 rfl (Nat.le_of_ble_eq_true rfl) dX9_account_187) ?_
  exact pm_iret hF dX9_account_190 (rfl)

set_option maxHeartbeats 4000000 in
set_option maxRecDepth 100000 in
theorem m_X9_account_9 {X : Cx} {l : Launch} (h0 : Init X) {cm : Nat → Nat} {o : Nat} {σ : Sb} (hO : Ok σ.1)   : PM X l yX9_account cX9_account 2 (some .int) 1 23 [.ref o, .int 9] (SBH X cm o σ) (.int (accV σ.1 9)) := by
  refine Met.mk (Bh := (SBH X cm o σ)) (by decide) (Nat.le_of_ble_eq_true rfl) ?_
  intro p e s m below meth c ls hF hB hl
  obtain ⟨ow, f, g, hz, hob, hsk, hpa, hre, ⟨cw, ew, nu, hcw, hwo⟩, hin, ⟨ln, lc, hln, hli⟩, hi60⟩ := hB
  have hs0 := hsk 0 (by decide)
  have hl : lv_has ls 2 [(0, .ref o), (1, .int 9)] := hl
  obtain ⟨hx, hb, hml, hr, hlk, hown, hG⟩ := id hF
  have hK := hG.K h0
  have hS : va_S noA s.heap s.heap [] := va_S.rf
  have hO1 := hO.1
  have hO2 := hO.2.1
  have hO3 := hO.2.2.1
  refine lv_iload_n hx hb dX9_account_0 rfl (lv_at hl 1 rfl) ?_
  refine lv_tableIn (x := 9) (off := 190) (tgt := 191) hx hb dX9_account_1 (by decide) (by decide) (by decide) (by decide) ?_
  refine lv_aload_n hx hb dX9_account_191 rfl (lv_at hl 0 rfl) ?_
  refine g_get (ci := 8) (v := .ref (f 0 0)) h0 hF inX9 hob.1 0 rfl rfl 0 (by decide) wf_X9_12 rfl rfl dX9_account_192 ?_
  refine g_get (ci := 4) (v := .ref (f 0 2)) h0 hF inX5 hs0.1 0 rfl rfl 1 (by decide) wf_X9_165 rfl rfl dX9_account_195 ?_
  refine g_get (ci := 3) (v := .ref (f 0 13)) h0 hF inX4 hs0.1 2 rfl rfl 5 (by decide) wf_X9_238 rfl rfl dX9_account_198 ?_
  refine lv_aload_n hx hb dX9_account_201 rfl (lv_at hl 0 rfl) ?_
  refine g_get (ci := 8) (v := .ref (f 0 0)) h0 hF inX9 hob.1 0 rfl rfl 0 (by decide) wf_X9_12 rfl rfl dX9_account_202 ?_
  refine g_get (ci := 4) (v := .ref (f 0 2)) h0 hF inX5 hs0.1 0 rfl rfl 1 (by decide) wf_X9_165 rfl rfl dX9_account_205 ?_
  refine g_get (ci := 3) (v := .int (nI (σ.1.2 1))) h0 hF inX4 hs0.1 2 rfl rfl 0 (by decide) wf_X9_287 rfl rfl dX9_account_208 ?_
  refine core_p (v := .int (sI (σ.1.1 9) (σ.1.2 1))) (grS (n := 2) (As := [.ref (f 0 13), .int (nI (σ.1.2 1))]) (rest := []) h0 hF (m_X9_sum h0 (a := f 0 13) (N := 5) (F := σ.1.1 9) (σ.1.2 1) (by omega) (by omega) ) wm_X9_305 wt_X9_sum wz_X9 wc_X9_sum ⟨by decide, by decide, by decide +kernel⟩ rfl ⟨Nat.le_of_ble_eq_true rfl, Nat.le_of_ble_eq_true rfl⟩ (hs0.1.sub [13] rfl) hS noA_old ⟨Nat.zero_le _, Nat.zero_le _⟩ hl.1 rfl (Nat.le_of_ble_eq_true rfl) dX9_account_211) ?_
  exact pm_iret hF dX9_account_214 (rfl)

set_option maxHeartbeats 4000000 in
set_option maxRecDepth 100000 in
theorem m_X9_account_10 {X : Cx} {l : Launch} (h0 : Init X) {cm : Nat → Nat} {o : Nat} {σ : Sb} (hO : Ok σ.1)   : PM X l yX9_account cX9_account 2 (some .int) 1 23 [.ref o, .int 10] (SBH X cm o σ) (.int (accV σ.1 10)) := by
  refine Met.mk (Bh := (SBH X cm o σ)) (by decide) (Nat.le_of_ble_eq_true rfl) ?_
  intro p e s m below meth c ls hF hB hl
  obtain ⟨ow, f, g, hz, hob, hsk, hpa, hre, ⟨cw, ew, nu, hcw, hwo⟩, hin, ⟨ln, lc, hln, hli⟩, hi60⟩ := hB
  have hs0 := hsk 0 (by decide)
  have hl : lv_has ls 2 [(0, .ref o), (1, .int 10)] := hl
  obtain ⟨hx, hb, hml, hr, hlk, hown, hG⟩ := id hF
  have hK := hG.K h0
  have hS : va_S noA s.heap s.heap [] := va_S.rf
  have hO1 := hO.1
  have hO2 := hO.2.1
  have hO3 := hO.2.2.1
  refine lv_iload_n hx hb dX9_account_0 rfl (lv_at hl 1 rfl) ?_
  refine lv_tableIn (x := 10) (off := 214) (tgt := 215) hx hb dX9_account_1 (by decide) (by decide) (by decide) (by decide) ?_
  refine lv_aload_n hx hb dX9_account_215 rfl (lv_at hl 0 rfl) ?_
  refine g_get (ci := 8) (v := .ref (f 0 0)) h0 hF inX9 hob.1 0 rfl rfl 0 (by decide) wf_X9_12 rfl rfl dX9_account_216 ?_
  refine g_get (ci := 4) (v := .ref (f 0 2)) h0 hF inX5 hs0.1 0 rfl rfl 1 (by decide) wf_X9_165 rfl rfl dX9_account_219 ?_
  refine g_get (ci := 3) (v := .ref (f 0 14)) h0 hF inX4 hs0.1 2 rfl rfl 6 (by decide) wf_X9_189 rfl rfl dX9_account_222 ?_
  refine lv_aload_n hx hb dX9_account_225 rfl (lv_at hl 0 rfl) ?_
  refine g_get (ci := 8) (v := .ref (f 0 0)) h0 hF inX9 hob.1 0 rfl rfl 0 (by decide) wf_X9_12 rfl rfl dX9_account_226 ?_
  refine g_get (ci := 4) (v := .ref (f 0 2)) h0 hF inX5 hs0.1 0 rfl rfl 1 (by decide) wf_X9_165 rfl rfl dX9_account_229 ?_
  refine g_get (ci := 3) (v := .int (nI (σ.1.2 1))) h0 hF inX4 hs0.1 2 rfl rfl 0 (by decide) wf_X9_287 rfl rfl dX9_account_232 ?_
  refine core_p (v := .int (sI (σ.1.1 10) (σ.1.2 1))) (grS (n := 2) (As := [.ref (f 0 14), .int (nI (σ.1.2 1))]) (rest := []) h0 hF (m_X9_sum h0 (a := f 0 14) (N := 5) (F := σ.1.1 10) (σ.1.2 1) (by omega) (by omega) ) wm_X9_305 wt_X9_sum wz_X9 wc_X9_sum ⟨by decide, by decide, by decide +kernel⟩ rfl ⟨Nat.le_of_ble_eq_true rfl, Nat.le_of_ble_eq_true rfl⟩ (hs0.1.sub [14] rfl) hS noA_old ⟨Nat.zero_le _, Nat.zero_le _⟩ hl.1 rfl (Nat.le_of_ble_eq_true rfl) dX9_account_235) ?_
  exact pm_iret hF dX9_account_238 (rfl)

set_option maxHeartbeats 4000000 in
set_option maxRecDepth 100000 in
theorem m_X9_account_11 {X : Cx} {l : Launch} (h0 : Init X) {cm : Nat → Nat} {o : Nat} {σ : Sb} (hO : Ok σ.1)   : PM X l yX9_account cX9_account 2 (some .int) 1 23 [.ref o, .int 11] (SBH X cm o σ) (.int (accV σ.1 11)) := by
  refine Met.mk (Bh := (SBH X cm o σ)) (by decide) (Nat.le_of_ble_eq_true rfl) ?_
  intro p e s m below meth c ls hF hB hl
  obtain ⟨ow, f, g, hz, hob, hsk, hpa, hre, ⟨cw, ew, nu, hcw, hwo⟩, hin, ⟨ln, lc, hln, hli⟩, hi60⟩ := hB
  have hs0 := hsk 0 (by decide)
  have hl : lv_has ls 2 [(0, .ref o), (1, .int 11)] := hl
  obtain ⟨hx, hb, hml, hr, hlk, hown, hG⟩ := id hF
  have hK := hG.K h0
  have hS : va_S noA s.heap s.heap [] := va_S.rf
  have hO1 := hO.1
  have hO2 := hO.2.1
  have hO3 := hO.2.2.1
  refine lv_iload_n hx hb dX9_account_0 rfl (lv_at hl 1 rfl) ?_
  refine lv_tableIn (x := 11) (off := 238) (tgt := 239) hx hb dX9_account_1 (by decide) (by decide) (by decide) (by decide) ?_
  refine lv_aload_n hx hb dX9_account_239 rfl (lv_at hl 0 rfl) ?_
  refine g_get (ci := 8) (v := .ref (f 0 0)) h0 hF inX9 hob.1 0 rfl rfl 0 (by decide) wf_X9_12 rfl rfl dX9_account_240 ?_
  refine g_get (ci := 4) (v := .ref (f 0 2)) h0 hF inX5 hs0.1 0 rfl rfl 1 (by decide) wf_X9_165 rfl rfl dX9_account_243 ?_
  refine g_get (ci := 3) (v := .ref (f 0 15)) h0 hF inX4 hs0.1 2 rfl rfl 7 (by decide) wf_X9_192 rfl rfl dX9_account_246 ?_
  refine lv_aload_n hx hb dX9_account_249 rfl (lv_at hl 0 rfl) ?_
  refine g_get (ci := 8) (v := .ref (f 0 0)) h0 hF inX9 hob.1 0 rfl rfl 0 (by decide) wf_X9_12 rfl rfl dX9_account_250 ?_
  refine g_get (ci := 4) (v := .ref (f 0 2)) h0 hF inX5 hs0.1 0 rfl rfl 1 (by decide) wf_X9_165 rfl rfl dX9_account_253 ?_
  refine g_get (ci := 3) (v := .int (nI (σ.1.2 1))) h0 hF inX4 hs0.1 2 rfl rfl 0 (by decide) wf_X9_287 rfl rfl dX9_account_256 ?_
  refine core_p (v := .int (sI (σ.1.1 11) (σ.1.2 1))) (grS (n := 2) (As := [.ref (f 0 15), .int (nI (σ.1.2 1))]) (rest := []) h0 hF (m_X9_sum h0 (a := f 0 15) (N := 5) (F := σ.1.1 11) (σ.1.2 1) (by omega) (by omega) ) wm_X9_305 wt_X9_sum wz_X9 wc_X9_sum ⟨by decide, by decide, by decide +kernel⟩ rfl ⟨Nat.le_of_ble_eq_true rfl, Nat.le_of_ble_eq_true rfl⟩ (hs0.1.sub [15] rfl) hS noA_old ⟨Nat.zero_le _, Nat.zero_le _⟩ hl.1 rfl (Nat.le_of_ble_eq_true rfl) dX9_account_259) ?_
  exact pm_iret hF dX9_account_262 (rfl)

set_option maxHeartbeats 4000000 in
set_option maxRecDepth 100000 in
theorem m_X9_cloudOf {X : Cx} {l : Launch} (h0 : Init X) {cm : Nat → Nat} {o : Nat} {σ : Sb} (hO : Ok σ.1)  (x : Int32) (d : Nat) (hxd : x = nI d) (hd : d < 4) : PM X l yX9_cloudOf cX9_cloudOf 2 (some .int) 2 42 [.ref o, .int x] (SBH X cm o σ) (.int (σ.1.1 4 d)) := by
  subst hxd
  refine Met.mk (Bh := (SBH X cm o σ)) (by decide) (Nat.le_of_ble_eq_true rfl) ?_
  intro p e s m below meth c ls hF hB hl
  obtain ⟨ow, f, g, hz, hob, hsk, hpa, hre, ⟨cw, ew, nu, hcw, hwo⟩, hin, ⟨ln, lc, hln, hli⟩, hi60⟩ := hB
  have hs0 := hsk 0 (by decide)
  have hl : lv_has ls 2 [(0, .ref o), (1, .int (nI d))] := hl
  obtain ⟨hx, hb, hml, hr, hlk, hown, hG⟩ := id hF
  have hK := hG.K h0
  have hS : va_S noA s.heap s.heap [] := va_S.rf
  have hO1 := hO.1
  have hO2 := hO.2.1
  have hO3 := hO.2.2.1
  refine lv_iload_n hx hb dX9_cloudOf_0 rfl (lv_at hl 1 rfl) ?_
  refine core_p (v := .int (bI (winB (nI d) 0 3))) (grS (n := 1) (As := [.int (nI d)]) (rest := []) h0 hF (m_X9_isSector h0 (nI d)) wm_X9_226 wt_X9_isSector wz_X9 wc_X9_isSector ⟨by decide, by decide, by decide +kernel⟩ rfl ⟨Nat.le_of_ble_eq_true rfl, Nat.le_of_ble_eq_true rfl⟩ trivial hS noA_old ⟨Nat.zero_le _, Nat.zero_le _⟩ hl.1 rfl (Nat.le_of_ble_eq_true rfl) dX9_cloudOf_1) ?_
  refine lv_if_eq (tgt := 22) hx hb dX9_cloudOf_4 (by decide) (fun c_4 => absurd c_4 (bI_n0.mpr (winB_nI (by omega)))) (fun c_4 => ?_)
  have n_4 := bI_n0.mp c_4
  refine lv_aload_n hx hb dX9_cloudOf_7 rfl (lv_at hl 0 rfl) ?_
  refine g_get (ci := 8) (v := .ref (f 0 0)) h0 hF inX9 hob.1 0 rfl rfl 0 (by decide) wf_X9_12 rfl rfl dX9_cloudOf_8 ?_
  refine g_get (ci := 4) (v := .ref (f 0 1)) h0 hF inX5 hs0.1 0 rfl rfl 0 (by decide) wf_X9_54 rfl rfl dX9_cloudOf_11 ?_
  refine g_get (ci := 5) (v := .ref (f 0 8)) h0 hF inX6 hs0.1 1 rfl rfl 5 (by decide) wf_X9_229 rfl rfl dX9_cloudOf_14 ?_
  refine lv_iload_n hx hb dX9_cloudOf_17 rfl (lv_at hl 1 rfl) ?_
  refine g_iald hx hb hK hs0.1 8 0 rfl rfl d (rfl) (by omega) (by decide) dX9_cloudOf_18 ?_
  refine lv_goto (tgt := 23) hx hb dX9_cloudOf_19 (by decide) ?_
  exact pm_iret hF dX9_cloudOf_23 (rfl)

set_option maxHeartbeats 4000000 in
set_option maxRecDepth 100000 in
theorem m_X9_debt {X : Cx} {l : Launch} (h0 : Init X) {cm : Nat → Nat} {o : Nat} {σ : Sb} (hO : Ok σ.1)  (x : Int32) (r : Nat) (hxr : x = nI r) (hr : r < σ.1.2 1) : PM X l yX9_debt cX9_debt 2 (some .int) 1 21 [.ref o, .int x] (SBH X cm o σ) (.int (σ.1.1 6 r)) := by
  subst hxr
  refine Met.mk (Bh := (SBH X cm o σ)) (by decide) (Nat.le_of_ble_eq_true rfl) ?_
  intro p e s m below meth c ls hF hB hl
  obtain ⟨ow, f, g, hz, hob, hsk, hpa, hre, ⟨cw, ew, nu, hcw, hwo⟩, hin, ⟨ln, lc, hln, hli⟩, hi60⟩ := hB
  have hs0 := hsk 0 (by decide)
  have hl : lv_has ls 2 [(0, .ref o), (1, .int (nI r))] := hl
  obtain ⟨hx, hb, hml, hr, hlk, hown, hG⟩ := id hF
  have hK := hG.K h0
  have hS : va_S noA s.heap s.heap [] := va_S.rf
  have hO1 := hO.1
  have hO2 := hO.2.1
  have hO3 := hO.2.2.1
  refine lv_aload_n hx hb dX9_debt_0 rfl (lv_at hl 0 rfl) ?_
  refine g_get (ci := 8) (v := .ref (f 0 0)) h0 hF inX9 hob.1 0 rfl rfl 0 (by decide) wf_X9_12 rfl rfl dX9_debt_1 ?_
  refine g_get (ci := 4) (v := .ref (f 0 2)) h0 hF inX5 hs0.1 0 rfl rfl 1 (by decide) wf_X9_165 rfl rfl dX9_debt_4 ?_
  refine lv_iload_n hx hb dX9_debt_7 rfl (lv_at hl 1 rfl) ?_
  refine core_p (v := .int (bI (hasB (σ.1.2 1) (nI r)))) (grV (n := 1) (As := [.int (nI r)]) (rest := []) h0 hF (m_X4_has h0 (f := f 0) (k := σ.1) hO  (nI r)) wm_X9_169 wo_X4_has ws_X4__X4_has wz_X4 wc_X4_has ⟨by decide, by decide, by decide +kernel⟩ rfl ⟨Nat.le_of_ble_eq_true rfl, Nat.le_of_ble_eq_true rfl⟩ (ci := 3) ⟨_, hs0.1 2 _ rfl⟩ rfl hs0.1 hS noA_old ⟨Nat.zero_le _, Nat.zero_le _⟩ hl.1 rfl (Nat.le_of_ble_eq_true rfl) dX9_debt_8) ?_
  refine lv_if_eq (tgt := 29) hx hb dX9_debt_11 (by decide) (fun c_11 => absurd c_11 (bI_n0.mpr (hasB_nI (by omega) (by omega)))) (fun c_11 => ?_)
  have n_11 := bI_n0.mp c_11
  refine lv_aload_n hx hb dX9_debt_14 rfl (lv_at hl 0 rfl) ?_
  refine g_get (ci := 8) (v := .ref (f 0 0)) h0 hF inX9 hob.1 0 rfl rfl 0 (by decide) wf_X9_12 rfl rfl dX9_debt_15 ?_
  refine g_get (ci := 4) (v := .ref (f 0 2)) h0 hF inX5 hs0.1 0 rfl rfl 1 (by decide) wf_X9_165 rfl rfl dX9_debt_18 ?_
  refine g_get (ci := 3) (v := .ref (f 0 10)) h0 hF inX4 hs0.1 2 rfl rfl 2 (by decide) wf_X9_232 rfl rfl dX9_debt_21 ?_
  refine lv_iload_n hx hb dX9_debt_24 rfl (lv_at hl 1 rfl) ?_
  refine g_iald hx hb hK hs0.1 10 0 rfl rfl r (rfl) (by omega) (by decide) dX9_debt_25 ?_
  refine lv_goto (tgt := 30) hx hb dX9_debt_26 (by decide) ?_
  exact pm_iret hF dX9_debt_30 (rfl)

set_option maxHeartbeats 4000000 in
set_option maxRecDepth 100000 in
theorem m_X9_debtAgain {X : Cx} {l : Launch} (h0 : Init X) {cm : Nat → Nat} {o : Nat} {σ : Sb} (hO : Ok σ.1)  (x : Int32) (r : Nat) (hxr : x = nI r) (hr : r < σ.1.2 1) : PM X l yX9_debtAgain cX9_debtAgain 2 (some .int) 1 21 [.ref o, .int x] (SBH X cm o σ) (.int (σ.1.1 8 r - σ.1.1 9 r)) := by
  subst hxr
  refine Met.mk (Bh := (SBH X cm o σ)) (by decide) (Nat.le_of_ble_eq_true rfl) ?_
  intro p e s m below meth c ls hF hB hl
  obtain ⟨ow, f, g, hz, hob, hsk, hpa, hre, ⟨cw, ew, nu, hcw, hwo⟩, hin, ⟨ln, lc, hln, hli⟩, hi60⟩ := hB
  have hs0 := hsk 0 (by decide)
  have hl : lv_has ls 2 [(0, .ref o), (1, .int (nI r))] := hl
  obtain ⟨hx, hb, hml, hr, hlk, hown, hG⟩ := id hF
  have hK := hG.K h0
  have hS : va_S noA s.heap s.heap [] := va_S.rf
  have hO1 := hO.1
  have hO2 := hO.2.1
  have hO3 := hO.2.2.1
  refine lv_aload_n hx hb dX9_debtAgain_0 rfl (lv_at hl 0 rfl) ?_
  refine g_get (ci := 8) (v := .ref (f 0 0)) h0 hF inX9 hob.1 0 rfl rfl 0 (by decide) wf_X9_12 rfl rfl dX9_debtAgain_1 ?_
  refine g_get (ci := 4) (v := .ref (f 0 2)) h0 hF inX5 hs0.1 0 rfl rfl 1 (by decide) wf_X9_165 rfl rfl dX9_debtAgain_4 ?_
  refine lv_iload_n hx hb dX9_debtAgain_7 rfl (lv_at hl 1 rfl) ?_
  refine core_p (v := .int (bI (hasB (σ.1.2 1) (nI r)))) (grV (n := 1) (As := [.int (nI r)]) (rest := []) h0 hF (m_X4_has h0 (f := f 0) (k := σ.1) hO  (nI r)) wm_X9_169 wo_X4_has ws_X4__X4_has wz_X4 wc_X4_has ⟨by decide, by decide, by decide +kernel⟩ rfl ⟨Nat.le_of_ble_eq_true rfl, Nat.le_of_ble_eq_true rfl⟩ (ci := 3) ⟨_, hs0.1 2 _ rfl⟩ rfl hs0.1 hS noA_old ⟨Nat.zero_le _, Nat.zero_le _⟩ hl.1 rfl (Nat.le_of_ble_eq_true rfl) dX9_debtAgain_8) ?_
  refine lv_if_eq (tgt := 42) hx hb dX9_debtAgain_11 (by decide) (fun c_11 => absurd c_11 (bI_n0.mpr (hasB_nI (by omega) (by omega)))) (fun c_11 => ?_)
  have n_11 := bI_n0.mp c_11
  refine lv_aload_n hx hb dX9_debtAgain_14 rfl (lv_at hl 0 rfl) ?_
  refine g_get (ci := 8) (v := .ref (f 0 0)) h0 hF inX9 hob.1 0 rfl rfl 0 (by decide) wf_X9_12 rfl rfl dX9_debtAgain_15 ?_
  refine g_get (ci := 4) (v := .ref (f 0 2)) h0 hF inX5 hs0.1 0 rfl rfl 1 (by decide) wf_X9_165 rfl rfl dX9_debtAgain_18 ?_
  refine g_get (ci := 3) (v := .ref (f 0 12)) h0 hF inX4 hs0.1 2 rfl rfl 4 (by decide) wf_X9_235 rfl rfl dX9_debtAgain_21 ?_
  refine lv_iload_n hx hb dX9_debtAgain_24 rfl (lv_at hl 1 rfl) ?_
  refine g_iald hx hb hK hs0.1 12 0 rfl rfl r (rfl) (by omega) (by decide) dX9_debtAgain_25 ?_
  refine lv_aload_n hx hb dX9_debtAgain_26 rfl (lv_at hl 0 rfl) ?_
  refine g_get (ci := 8) (v := .ref (f 0 0)) h0 hF inX9 hob.1 0 rfl rfl 0 (by decide) wf_X9_12 rfl rfl dX9_debtAgain_27 ?_
  refine g_get (ci := 4) (v := .ref (f 0 2)) h0 hF inX5 hs0.1 0 rfl rfl 1 (by decide) wf_X9_165 rfl rfl dX9_debtAgain_30 ?_
  refine g_get (ci := 3) (v := .ref (f 0 13)) h0 hF inX4 hs0.1 2 rfl rfl 5 (by decide) wf_X9_238 rfl rfl dX9_debtAgain_33 ?_
  refine lv_iload_n hx hb dX9_debtAgain_36 rfl (lv_at hl 1 rfl) ?_
  refine g_iald hx hb hK hs0.1 13 0 rfl rfl r (rfl) (by omega) (by decide) dX9_debtAgain_37 ?_
  refine lv_isub hx hb dX9_debtAgain_38 ?_
  refine lv_goto (tgt := 43) hx hb dX9_debtAgain_39 (by decide) ?_
  exact pm_iret hF dX9_debtAgain_43 (rfl)

set_option maxHeartbeats 4000000 in
set_option maxRecDepth 100000 in
theorem m_X9_seen {X : Cx} {l : Launch} (h0 : Init X) {cm : Nat → Nat} {o : Nat} {σ : Sb} (hO : Ok σ.1)  (x : Int32) (d : Nat) (hxd : x = nI d) (hd : d < 4) : PM X l yX9_seen cX9_seen 2 (some .int) 2 44 [.ref o, .int x] (SBH X cm o σ) (.int (seenN σ.1 d)) := by
  subst hxd
  refine Met.mk (Bh := (SBH X cm o σ)) (by decide) (Nat.le_of_ble_eq_true rfl) ?_
  intro p e s m below meth c ls hF hB hl
  obtain ⟨ow, f, g, hz, hob, hsk, hpa, hre, ⟨cw, ew, nu, hcw, hwo⟩, hin, ⟨ln, lc, hln, hli⟩, hi60⟩ := hB
  have hs0 := hsk 0 (by decide)
  have hl : lv_has ls 2 [(0, .ref o), (1, .int (nI d))] := hl
  obtain ⟨hx, hb, hml, hr, hlk, hown, hG⟩ := id hF
  have hK := hG.K h0
  have hS : va_S noA s.heap s.heap [] := va_S.rf
  have hO1 := hO.1
  have hO2 := hO.2.1
  have hO3 := hO.2.2.1
  refine lv_iload_n hx hb dX9_seen_0 rfl (lv_at hl 1 rfl) ?_
  refine core_p (v := .int (bI (winB (nI d) 0 3))) (grS (n := 1) (As := [.int (nI d)]) (rest := []) h0 hF (m_X9_isSector h0 (nI d)) wm_X9_226 wt_X9_isSector wz_X9 wc_X9_isSector ⟨by decide, by decide, by decide +kernel⟩ rfl ⟨Nat.le_of_ble_eq_true rfl, Nat.le_of_ble_eq_true rfl⟩ trivial hS noA_old ⟨Nat.zero_le _, Nat.zero_le _⟩ hl.1 rfl (Nat.le_of_ble_eq_true rfl) dX9_seen_1) ?_
  refine lv_if_eq (tgt := 21) hx hb dX9_seen_4 (by decide) (fun c_4 => absurd c_4 (bI_n0.mpr (winB_nI (by omega)))) (fun c_4 => ?_)
  have n_4 := bI_n0.mp c_4
  refine lv_aload_n hx hb dX9_seen_7 rfl (lv_at hl 0 rfl) ?_
  refine g_get (ci := 8) (v := .ref (f 0 0)) h0 hF inX9 hob.1 0 rfl rfl 0 (by decide) wf_X9_12 rfl rfl dX9_seen_8 ?_
  refine g_get (ci := 4) (v := .ref (f 0 1)) h0 hF inX5 hs0.1 0 rfl rfl 0 (by decide) wf_X9_54 rfl rfl dX9_seen_11 ?_
  refine lv_iload_n hx hb dX9_seen_14 rfl (lv_at hl 1 rfl) ?_
  refine core_p (v := .int (nI (cN (fun z => decide (σ.1.1 1 z = (nI d)) && isSeen σ.1 z) (σ.1.2 0)))) (grV (n := 1) (As := [.int (nI d)]) (rest := []) h0 hF (m_X6_countSeen h0 (f := f 0) (k := σ.1) hO  (nI d)) wm_X9_241 wo_X6_countSeen ws_X6__X6_countSeen wz_X6 wc_X6_countSeen ⟨by decide, by decide, by decide +kernel⟩ rfl ⟨Nat.le_of_ble_eq_true rfl, Nat.le_of_ble_eq_true rfl⟩ (ci := 5) ⟨_, hs0.1 1 _ rfl⟩ rfl hs0.1 hS noA_old ⟨Nat.zero_le _, Nat.zero_le _⟩ hl.1 rfl (Nat.le_of_ble_eq_true rfl) dX9_seen_15) ?_
  refine lv_goto (tgt := 22) hx hb dX9_seen_18 (by decide) ?_
  exact pm_iret hF dX9_seen_22 (rfl)

set_option maxHeartbeats 4000000 in
set_option maxRecDepth 100000 in
theorem m_X9_seenAgain {X : Cx} {l : Launch} (h0 : Init X) {cm : Nat → Nat} {o : Nat} {σ : Sb} (hO : Ok σ.1) (hC : Okc σ.1) (x : Int32) (d : Nat) (hxd : x = nI d) (hd : d < 4) : PM X l yX9_seenAgain cX9_seenAgain 2 (some .int) 2 47 [.ref o, .int x] (SBH X cm o σ) (.int (seenA σ.1 d)) := by
  subst hxd
  refine Met.mk (Bh := (SBH X cm o σ)) (by decide) (Nat.le_of_ble_eq_true rfl) ?_
  intro p e s m below meth c ls hF hB hl
  obtain ⟨ow, f, g, hz, hob, hsk, hpa, hre, ⟨cw, ew, nu, hcw, hwo⟩, hin, ⟨ln, lc, hln, hli⟩, hi60⟩ := hB
  have hs0 := hsk 0 (by decide)
  have hl : lv_has ls 2 [(0, .ref o), (1, .int (nI d))] := hl
  obtain ⟨hx, hb, hml, hr, hlk, hown, hG⟩ := id hF
  have hK := hG.K h0
  have hS : va_S noA s.heap s.heap [] := va_S.rf
  have hO1 := hO.1
  have hO2 := hO.2.1
  have hO3 := hO.2.2.1
  refine lv_iload_n hx hb dX9_seenAgain_0 rfl (lv_at hl 1 rfl) ?_
  refine core_p (v := .int (bI (winB (nI d) 0 3))) (grS (n := 1) (As := [.int (nI d)]) (rest := []) h0 hF (m_X9_isSector h0 (nI d)) wm_X9_226 wt_X9_isSector wz_X9 wc_X9_isSector ⟨by decide, by decide, by decide +kernel⟩ rfl ⟨Nat.le_of_ble_eq_true rfl, Nat.le_of_ble_eq_true rfl⟩ trivial hS noA_old ⟨Nat.zero_le _, Nat.zero_le _⟩ hl.1 rfl (Nat.le_of_ble_eq_true rfl) dX9_seenAgain_1) ?_
  refine lv_if_eq (tgt := 21) hx hb dX9_seenAgain_4 (by decide) (fun c_4 => absurd c_4 (bI_n0.mpr (winB_nI (by omega)))) (fun c_4 => ?_)
  have n_4 := bI_n0.mp c_4
  refine lv_aload_n hx hb dX9_seenAgain_7 rfl (lv_at hl 0 rfl) ?_
  refine g_get (ci := 8) (v := .ref (f 0 0)) h0 hF inX9 hob.1 0 rfl rfl 0 (by decide) wf_X9_12 rfl rfl dX9_seenAgain_8 ?_
  refine g_get (ci := 4) (v := .ref (f 0 1)) h0 hF inX5 hs0.1 0 rfl rfl 0 (by decide) wf_X9_54 rfl rfl dX9_seenAgain_11 ?_
  refine lv_iload_n hx hb dX9_seenAgain_14 rfl (lv_at hl 1 rfl) ?_
  refine core_p (v := .int (nI (gS (fun b => cBr σ.1 (nI d) (nI b)) (cl σ.1 d + 1) (9 - cl σ.1 d)))) (grV (n := 1) (As := [.int (nI d)]) (rest := []) h0 hF (m_X6_countSeenByBrightness h0 (f := f 0) (k := σ.1) hO hC (nI d) d rfl (by omega)) wm_X9_244 wo_X6_countSeenByBrightness ws_X6__X6_countSeenByBrightness wz_X6 wc_X6_countSeenByBrightness ⟨by decide, by decide, by decide +kernel⟩ rfl ⟨Nat.le_of_ble_eq_true rfl, Nat.le_of_ble_eq_true rfl⟩ (ci := 5) ⟨_, hs0.1 1 _ rfl⟩ rfl hs0.1 hS noA_old ⟨Nat.zero_le _, Nat.zero_le _⟩ hl.1 rfl (Nat.le_of_ble_eq_true rfl) dX9_seenAgain_15) ?_
  refine lv_goto (tgt := 22) hx hb dX9_seenAgain_18 (by decide) ?_
  exact pm_iret hF dX9_seenAgain_22 (rfl)

set_option maxHeartbeats 4000000 in
set_option maxRecDepth 100000 in
theorem m_X9_levy {X : Cx} {l : Launch} (h0 : Init X) {cm : Nat → Nat} {o : Nat} {σ : Sb} (hO : Ok σ.1)  (x : Int32) (r : Nat) (hxr : x = nI r) (hr : r < σ.1.2 1)(y : Int32) (i : Nat) (hxi : y = nI i) (hi : i < σ.1.2 0) : PM X l yX9_levy cX9_levy 3 (some .int) 2 44 [.ref o, .int x, .int y] (SBH X cm o σ) (.int (levI σ.1 (nI r) i)) := by
  subst hxr
  subst hxi
  refine Met.mk (Bh := (SBH X cm o σ)) (by decide) (Nat.le_of_ble_eq_true rfl) ?_
  intro p e s m below meth c ls hF hB hl
  obtain ⟨ow, f, g, hz, hob, hsk, hpa, hre, ⟨cw, ew, nu, hcw, hwo⟩, hin, ⟨ln, lc, hln, hli⟩, hi60⟩ := hB
  have hs0 := hsk 0 (by decide)
  have hl : lv_has ls 3 [(0, .ref o), (1, .int (nI r)), (2, .int (nI i))] := hl
  obtain ⟨hx, hb, hml, hr, hlk, hown, hG⟩ := id hF
  have hK := hG.K h0
  have hS : va_S noA s.heap s.heap [] := va_S.rf
  have hO1 := hO.1
  have hO2 := hO.2.1
  have hO3 := hO.2.2.1
  refine lv_aload_n hx hb dX9_levy_0 rfl (lv_at hl 0 rfl) ?_
  refine g_get (ci := 8) (v := .ref (f 0 0)) h0 hF inX9 hob.1 0 rfl rfl 0 (by decide) wf_X9_12 rfl rfl dX9_levy_1 ?_
  refine lv_iload_n hx hb dX9_levy_4 rfl (lv_at hl 1 rfl) ?_
  refine lv_iload_n hx hb dX9_levy_5 rfl (lv_at hl 2 rfl) ?_
  refine core_p (v := .int (bI (hasB (σ.1.2 1) (nI r) && hasB (σ.1.2 0) (nI i)))) (grV (n := 2) (As := [.int (nI r), .int (nI i)]) (rest := []) h0 hF (m_X5_hasBoth h0 (f := f 0) (k := σ.1) hO  (nI r) (nI i)) wm_X9_247 wo_X5_hasBoth ws_X5__X5_hasBoth wz_X5 wc_X5_hasBoth ⟨by decide, by decide, by decide +kernel⟩ rfl ⟨Nat.le_of_ble_eq_true rfl, Nat.le_of_ble_eq_true rfl⟩ (ci := 4) ⟨_, hs0.1 0 _ rfl⟩ rfl hs0.1 hS noA_old ⟨Nat.zero_le _, Nat.zero_le _⟩ hl.1 rfl (Nat.le_of_ble_eq_true rfl) dX9_levy_6) ?_
  refine lv_if_eq (tgt := 24) hx hb dX9_levy_9 (by decide) (fun c_9 => absurd c_9 (bI_n0.mpr (by rw [hasB_nI (by omega) (by omega), hasB_nI (by omega) (by omega)]; rfl))) (fun c_9 => ?_)
  have n_9 := bI_n0.mp c_9
  refine lv_aload_n hx hb dX9_levy_12 rfl (lv_at hl 0 rfl) ?_
  refine g_get (ci := 8) (v := .ref (f 0 0)) h0 hF inX9 hob.1 0 rfl rfl 0 (by decide) wf_X9_12 rfl rfl dX9_levy_13 ?_
  refine lv_iload_n hx hb dX9_levy_16 rfl (lv_at hl 1 rfl) ?_
  refine lv_iload_n hx hb dX9_levy_17 rfl (lv_at hl 2 rfl) ?_
  refine core_p (v := .int (levI σ.1 (nI r) i)) (grV (n := 2) (As := [.int (nI r), .int (nI i)]) (rest := []) h0 hF (m_X5_levyOn h0 (f := f 0) (k := σ.1) hO  (nI r) (nI i) i rfl (by omega)) wm_X9_251 wo_X5_levyOn ws_X5__X5_levyOn wz_X5 wc_X5_levyOn ⟨by decide, by decide, by decide +kernel⟩ rfl ⟨Nat.le_of_ble_eq_true rfl, Nat.le_of_ble_eq_true rfl⟩ (ci := 4) ⟨_, hs0.1 0 _ rfl⟩ rfl hs0.1 hS noA_old ⟨Nat.zero_le _, Nat.zero_le _⟩ hl.1 rfl (Nat.le_of_ble_eq_true rfl) dX9_levy_18) ?_
  refine lv_goto (tgt := 25) hx hb dX9_levy_21 (by decide) ?_
  exact pm_iret hF dX9_levy_25 (rfl)

set_option maxHeartbeats 4000000 in
set_option maxRecDepth 100000 in
theorem m_X9_could {X : Cx} {l : Launch} (h0 : Init X) {cm : Nat → Nat} {o : Nat} {σ : Sb} (hO : Ok σ.1)  (x : Int32) (r : Nat) (hxr : x = nI r) (hr : r < σ.1.2 1) : PM X l yX9_could cX9_could 2 (some .int) 3 69 [.ref o, .int x] (SBH X cm o σ) (.int (couN σ.1 r)) := by
  subst hxr
  refine Met.mk (Bh := (SBH X cm o σ)) (by decide) (Nat.le_of_ble_eq_true rfl) ?_
  intro p e s m below meth c ls hF hB hl
  obtain ⟨ow, f, g, hz, hob, hsk, hpa, hre, ⟨cw, ew, nu, hcw, hwo⟩, hin, ⟨ln, lc, hln, hli⟩, hi60⟩ := hB
  have hs0 := hsk 0 (by decide)
  have hl : lv_has ls 2 [(0, .ref o), (1, .int (nI r))] := hl
  obtain ⟨hx, hb, hml, hr, hlk, hown, hG⟩ := id hF
  have hK := hG.K h0
  have hS : va_S noA s.heap s.heap [] := va_S.rf
  have hO1 := hO.1
  have hO2 := hO.2.1
  have hO3 := hO.2.2.1
  refine lv_aload_n hx hb dX9_could_0 rfl (lv_at hl 0 rfl) ?_
  refine g_get (ci := 8) (v := .ref (f 0 0)) h0 hF inX9 hob.1 0 rfl rfl 0 (by decide) wf_X9_12 rfl rfl dX9_could_1 ?_
  refine g_get (ci := 4) (v := .ref (f 0 2)) h0 hF inX5 hs0.1 0 rfl rfl 1 (by decide) wf_X9_165 rfl rfl dX9_could_4 ?_
  refine lv_iload_n hx hb dX9_could_7 rfl (lv_at hl 1 rfl) ?_
  refine core_p (v := .int (bI (hasB (σ.1.2 1) (nI r)))) (grV (n := 1) (As := [.int (nI r)]) (rest := []) h0 hF (m_X4_has h0 (f := f 0) (k := σ.1) hO  (nI r)) wm_X9_169 wo_X4_has ws_X4__X4_has wz_X4 wc_X4_has ⟨by decide, by decide, by decide +kernel⟩ rfl ⟨Nat.le_of_ble_eq_true rfl, Nat.le_of_ble_eq_true rfl⟩ (ci := 3) ⟨_, hs0.1 2 _ rfl⟩ rfl hs0.1 hS noA_old ⟨Nat.zero_le _, Nat.zero_le _⟩ hl.1 rfl (Nat.le_of_ble_eq_true rfl) dX9_could_8) ?_
  refine lv_if_eq (tgt := 25) hx hb dX9_could_11 (by decide) (fun c_11 => absurd c_11 (bI_n0.mpr (hasB_nI (by omega) (by omega)))) (fun c_11 => ?_)
  have n_11 := bI_n0.mp c_11
  refine lv_aload_n hx hb dX9_could_14 rfl (lv_at hl 0 rfl) ?_
  refine g_get (ci := 8) (v := .ref (f 0 0)) h0 hF inX9 hob.1 0 rfl rfl 0 (by decide) wf_X9_12 rfl rfl dX9_could_15 ?_
  refine lv_iload_n hx hb dX9_could_18 rfl (lv_at hl 1 rfl) ?_
  refine core_p (v := .int (gre σ.1 8 (σ.1.1 5 r) (nI (iN σ.1 (nI r) (σ.1.2 2))) 0)) (grV (n := 1) (As := [.int (nI r)]) (rest := []) h0 hF (m_X5_countRedeemable h0 (f := f 0) (k := σ.1) hO  (nI r) r rfl (by omega)) wm_X9_255 wo_X5_countRedeemable ws_X5__X5_countRedeemable wz_X5 wc_X5_countRedeemable ⟨by decide, by decide, by decide +kernel⟩ rfl ⟨Nat.le_of_ble_eq_true rfl, Nat.le_of_ble_eq_true rfl⟩ (ci := 4) ⟨_, hs0.1 0 _ rfl⟩ rfl hs0.1 hS noA_old ⟨Nat.zero_le _, Nat.zero_le _⟩ hl.1 rfl (Nat.le_of_ble_eq_true rfl) dX9_could_19) ?_
  refine lv_goto (tgt := 26) hx hb dX9_could_22 (by decide) ?_
  exact pm_iret hF dX9_could_26 (rfl)

set_option maxHeartbeats 4000000 in
set_option maxRecDepth 100000 in
theorem m_X9_couldAgain {X : Cx} {l : Launch} (h0 : Init X) {cm : Nat → Nat} {o : Nat} {σ : Sb} (hO : Ok σ.1)  (x : Int32) (r : Nat) (hxr : x = nI r) (hr : r < σ.1.2 1) : PM X l yX9_couldAgain cX9_couldAgain 2 (some .int) 3 68 [.ref o, .int x] (SBH X cm o σ) (.int (couA σ.1 r)) := by
  subst hxr
  refine Met.mk (Bh := (SBH X cm o σ)) (by decide) (Nat.le_of_ble_eq_true rfl) ?_
  intro p e s m below meth c ls hF hB hl
  obtain ⟨ow, f, g, hz, hob, hsk, hpa, hre, ⟨cw, ew, nu, hcw, hwo⟩, hin, ⟨ln, lc, hln, hli⟩, hi60⟩ := hB
  have hs0 := hsk 0 (by decide)
  have hl : lv_has ls 2 [(0, .ref o), (1, .int (nI r))] := hl
  obtain ⟨hx, hb, hml, hr, hlk, hown, hG⟩ := id hF
  have hK := hG.K h0
  have hS : va_S noA s.heap s.heap [] := va_S.rf
  have hO1 := hO.1
  have hO2 := hO.2.1
  have hO3 := hO.2.2.1
  refine lv_aload_n hx hb dX9_couldAgain_0 rfl (lv_at hl 0 rfl) ?_
  refine g_get (ci := 8) (v := .ref (f 0 0)) h0 hF inX9 hob.1 0 rfl rfl 0 (by decide) wf_X9_12 rfl rfl dX9_couldAgain_1 ?_
  refine g_get (ci := 4) (v := .ref (f 0 2)) h0 hF inX5 hs0.1 0 rfl rfl 1 (by decide) wf_X9_165 rfl rfl dX9_couldAgain_4 ?_
  refine lv_iload_n hx hb dX9_couldAgain_7 rfl (lv_at hl 1 rfl) ?_
  refine core_p (v := .int (bI (hasB (σ.1.2 1) (nI r)))) (grV (n := 1) (As := [.int (nI r)]) (rest := []) h0 hF (m_X4_has h0 (f := f 0) (k := σ.1) hO  (nI r)) wm_X9_169 wo_X4_has ws_X4__X4_has wz_X4 wc_X4_has ⟨by decide, by decide, by decide +kernel⟩ rfl ⟨Nat.le_of_ble_eq_true rfl, Nat.le_of_ble_eq_true rfl⟩ (ci := 3) ⟨_, hs0.1 2 _ rfl⟩ rfl hs0.1 hS noA_old ⟨Nat.zero_le _, Nat.zero_le _⟩ hl.1 rfl (Nat.le_of_ble_eq_true rfl) dX9_couldAgain_8) ?_
  refine lv_if_eq (tgt := 25) hx hb dX9_couldAgain_11 (by decide) (fun c_11 => absurd c_11 (bI_n0.mpr (hasB_nI (by omega) (by omega)))) (fun c_11 => ?_)
  have n_11 := bI_n0.mp c_11
  refine lv_aload_n hx hb dX9_couldAgain_14 rfl (lv_at hl 0 rfl) ?_
  refine g_get (ci := 8) (v := .ref (f 0 0)) h0 hF inX9 hob.1 0 rfl rfl 0 (by decide) wf_X9_12 rfl rfl dX9_couldAgain_15 ?_
  refine lv_iload_n hx hb dX9_couldAgain_18 rfl (lv_at hl 1 rfl) ?_
  refine core_p (v := .int (tR σ.1 r (iN σ.1 (nI r) (σ.1.2 2)) (iN σ.1 (nI r) (σ.1.2 2) + 1))) (grV (n := 1) (As := [.int (nI r)]) (rest := []) h0 hF (m_X5_countRedeemableByTrying h0 (f := f 0) (k := σ.1) hO  (nI r) r rfl (by omega)) wm_X9_258 wo_X5_countRedeemableByTrying ws_X5__X5_countRedeemableByTrying wz_X5 wc_X5_countRedeemableByTrying ⟨by decide, by decide, by decide +kernel⟩ rfl ⟨Nat.le_of_ble_eq_true rfl, Nat.le_of_ble_eq_true rfl⟩ (ci := 4) ⟨_, hs0.1 0 _ rfl⟩ rfl hs0.1 hS noA_old ⟨Nat.zero_le _, Nat.zero_le _⟩ hl.1 rfl (Nat.le_of_ble_eq_true rfl) dX9_couldAgain_19) ?_
  refine lv_goto (tgt := 26) hx hb dX9_couldAgain_22 (by decide) ?_
  exact pm_iret hF dX9_couldAgain_26 (rfl)

set_option maxHeartbeats 4000000 in
set_option maxRecDepth 100000 in
theorem m_X9_brightens {X : Cx} {l : Launch} (h0 : Init X) {cm : Nat → Nat} {o : Nat} {σ : Sb} (hO : Ok σ.1)  (x : Int32) (d : Nat) (hxd : x = nI d) (hd : d < 4) : PM X l yX9_brightens cX9_brightens 2 (some .int) 2 42 [.ref o, .int x] (SBH X cm o σ) (.int (dM σ.1 d (σ.1.2 0))) := by
  subst hxd
  refine Met.mk (Bh := (SBH X cm o σ)) (by decide) (Nat.le_of_ble_eq_true rfl) ?_
  intro p e s m below meth c ls hF hB hl
  obtain ⟨ow, f, g, hz, hob, hsk, hpa, hre, ⟨cw, ew, nu, hcw, hwo⟩, hin, ⟨ln, lc, hln, hli⟩, hi60⟩ := hB
  have hs0 := hsk 0 (by decide)
  have hl : lv_has ls 2 [(0, .ref o), (1, .int (nI d))] := hl
  obtain ⟨hx, hb, hml, hr, hlk, hown, hG⟩ := id hF
  have hK := hG.K h0
  have hS : va_S noA s.heap s.heap [] := va_S.rf
  have hO1 := hO.1
  have hO2 := hO.2.1
  have hO3 := hO.2.2.1
  refine lv_iload_n hx hb dX9_brightens_0 rfl (lv_at hl 1 rfl) ?_
  refine core_p (v := .int (bI (winB (nI d) 0 3))) (grS (n := 1) (As := [.int (nI d)]) (rest := []) h0 hF (m_X9_isSector h0 (nI d)) wm_X9_226 wt_X9_isSector wz_X9 wc_X9_isSector ⟨by decide, by decide, by decide +kernel⟩ rfl ⟨Nat.le_of_ble_eq_true rfl, Nat.le_of_ble_eq_true rfl⟩ trivial hS noA_old ⟨Nat.zero_le _, Nat.zero_le _⟩ hl.1 rfl (Nat.le_of_ble_eq_true rfl) dX9_brightens_1) ?_
  refine lv_if_eq (tgt := 21) hx hb dX9_brightens_4 (by decide) (fun c_4 => absurd c_4 (bI_n0.mpr (winB_nI (by omega)))) (fun c_4 => ?_)
  have n_4 := bI_n0.mp c_4
  refine lv_aload_n hx hb dX9_brightens_7 rfl (lv_at hl 0 rfl) ?_
  refine g_get (ci := 8) (v := .ref (f 0 0)) h0 hF inX9 hob.1 0 rfl rfl 0 (by decide) wf_X9_12 rfl rfl dX9_brightens_8 ?_
  refine g_get (ci := 4) (v := .ref (f 0 1)) h0 hF inX5 hs0.1 0 rfl rfl 0 (by decide) wf_X9_54 rfl rfl dX9_brightens_11 ?_
  refine lv_iload_n hx hb dX9_brightens_14 rfl (lv_at hl 1 rfl) ?_
  refine core_p (v := .int (dM σ.1 d (σ.1.2 0))) (grV (n := 1) (As := [.int (nI d)]) (rest := []) h0 hF (m_X6_dawnsUntilAllSeen h0 (f := f 0) (k := σ.1) hO  (nI d) d rfl (by omega)) wm_X9_261 wo_X6_dawnsUntilAllSeen ws_X6__X6_dawnsUntilAllSeen wz_X6 wc_X6_dawnsUntilAllSeen ⟨by decide, by decide, by decide +kernel⟩ rfl ⟨Nat.le_of_ble_eq_true rfl, Nat.le_of_ble_eq_true rfl⟩ (ci := 5) ⟨_, hs0.1 1 _ rfl⟩ rfl hs0.1 hS noA_old ⟨Nat.zero_le _, Nat.zero_le _⟩ hl.1 rfl (Nat.le_of_ble_eq_true rfl) dX9_brightens_15) ?_
  refine lv_goto (tgt := 22) hx hb dX9_brightens_18 (by decide) ?_
  exact pm_iret hF dX9_brightens_22 (rfl)

set_option maxHeartbeats 4000000 in
set_option maxRecDepth 100000 in
theorem m_X9_cheapest {X : Cx} {l : Launch} (h0 : Init X) {cm : Nat → Nat} {o : Nat} {σ : Sb} (hO : Ok σ.1)  (x : Int32) (r : Nat) (hxr : x = nI r) (hr : r < σ.1.2 1) : PM X l yX9_cheapest cX9_cheapest 2 (some .int) 4 93 [.ref o, .int x] (SBH X cm o σ) (.int (csR σ.1 r (σ.1.2 0))) := by
  subst hxr
  refine Met.mk (Bh := (SBH X cm o σ)) (by decide) (Nat.le_of_ble_eq_true rfl) ?_
  intro p e s m below meth c ls hF hB hl
  obtain ⟨ow, f, g, hz, hob, hsk, hpa, hre, ⟨cw, ew, nu, hcw, hwo⟩, hin, ⟨ln, lc, hln, hli⟩, hi60⟩ := hB
  have hs0 := hsk 0 (by decide)
  have hl : lv_has ls 2 [(0, .ref o), (1, .int (nI r))] := hl
  obtain ⟨hx, hb, hml, hr, hlk, hown, hG⟩ := id hF
  have hK := hG.K h0
  have hS : va_S noA s.heap s.heap [] := va_S.rf
  have hO1 := hO.1
  have hO2 := hO.2.1
  have hO3 := hO.2.2.1
  refine lv_aload_n hx hb dX9_cheapest_0 rfl (lv_at hl 0 rfl) ?_
  refine g_get (ci := 8) (v := .ref (f 0 0)) h0 hF inX9 hob.1 0 rfl rfl 0 (by decide) wf_X9_12 rfl rfl dX9_cheapest_1 ?_
  refine g_get (ci := 4) (v := .ref (f 0 2)) h0 hF inX5 hs0.1 0 rfl rfl 1 (by decide) wf_X9_165 rfl rfl dX9_cheapest_4 ?_
  refine lv_iload_n hx hb dX9_cheapest_7 rfl (lv_at hl 1 rfl) ?_
  refine core_p (v := .int (bI (hasB (σ.1.2 1) (nI r)))) (grV (n := 1) (As := [.int (nI r)]) (rest := []) h0 hF (m_X4_has h0 (f := f 0) (k := σ.1) hO  (nI r)) wm_X9_169 wo_X4_has ws_X4__X4_has wz_X4 wc_X4_has ⟨by decide, by decide, by decide +kernel⟩ rfl ⟨Nat.le_of_ble_eq_true rfl, Nat.le_of_ble_eq_true rfl⟩ (ci := 3) ⟨_, hs0.1 2 _ rfl⟩ rfl hs0.1 hS noA_old ⟨Nat.zero_le _, Nat.zero_le _⟩ hl.1 rfl (Nat.le_of_ble_eq_true rfl) dX9_cheapest_8) ?_
  refine lv_if_eq (tgt := 25) hx hb dX9_cheapest_11 (by decide) (fun c_11 => absurd c_11 (bI_n0.mpr (hasB_nI (by omega) (by omega)))) (fun c_11 => ?_)
  have n_11 := bI_n0.mp c_11
  refine lv_aload_n hx hb dX9_cheapest_14 rfl (lv_at hl 0 rfl) ?_
  refine g_get (ci := 8) (v := .ref (f 0 0)) h0 hF inX9 hob.1 0 rfl rfl 0 (by decide) wf_X9_12 rfl rfl dX9_cheapest_15 ?_
  refine lv_iload_n hx hb dX9_cheapest_18 rfl (lv_at hl 1 rfl) ?_
  refine core_p (v := .int (csR σ.1 r (σ.1.2 0))) (grV (n := 1) (As := [.int (nI r)]) (rest := []) h0 hF (m_X5_cheapestStar h0 (f := f 0) (k := σ.1) hO  (nI r) r rfl (by omega)) wm_X9_264 wo_X5_cheapestStar ws_X5__X5_cheapestStar wz_X5 wc_X5_cheapestStar ⟨by decide, by decide, by decide +kernel⟩ rfl ⟨Nat.le_of_ble_eq_true rfl, Nat.le_of_ble_eq_true rfl⟩ (ci := 4) ⟨_, hs0.1 0 _ rfl⟩ rfl hs0.1 hS noA_old ⟨Nat.zero_le _, Nat.zero_le _⟩ hl.1 rfl (Nat.le_of_ble_eq_true rfl) dX9_cheapest_19) ?_
  refine lv_goto (tgt := 26) hx hb dX9_cheapest_22 (by decide) ?_
  exact pm_iret hF dX9_cheapest_26 (rfl)

set_option maxHeartbeats 4000000 in
set_option maxRecDepth 100000 in
theorem m_X9_wouldGrant {X : Cx} {l : Launch} (h0 : Init X) {cm : Nat → Nat} {o : Nat} {σ : Sb} (hO : Ok σ.1)   : PM X l yX9_wouldGrant cX9_wouldGrant 1 (some .int) 3 64 [.ref o] (SBH X cm o σ) (.int (nI (cN (fun z => grB σ.1 z) (σ.1.2 2)))) := by
  refine Met.mk (Bh := (SBH X cm o σ)) (by decide) (Nat.le_of_ble_eq_true rfl) ?_
  intro p e s m below meth c ls hF hB hl
  obtain ⟨ow, f, g, hz, hob, hsk, hpa, hre, ⟨cw, ew, nu, hcw, hwo⟩, hin, ⟨ln, lc, hln, hli⟩, hi60⟩ := hB
  have hs0 := hsk 0 (by decide)
  have hl : lv_has ls 1 [(0, .ref o)] := hl
  obtain ⟨hx, hb, hml, hr, hlk, hown, hG⟩ := id hF
  have hK := hG.K h0
  have hS : va_S noA s.heap s.heap [] := va_S.rf
  have hO1 := hO.1
  have hO2 := hO.2.1
  have hO3 := hO.2.2.1
  refine lv_aload_n hx hb dX9_wouldGrant_0 rfl (lv_at hl 0 rfl) ?_
  refine g_get (ci := 8) (v := .ref (f 0 0)) h0 hF inX9 hob.1 0 rfl rfl 0 (by decide) wf_X9_12 rfl rfl dX9_wouldGrant_1 ?_
  refine core_p (v := .int (nI (cN (fun z => grB σ.1 z) (σ.1.2 2)))) (grV (n := 0) (As := []) (rest := []) h0 hF (m_X5_countGrantable h0 (f := f 0) (k := σ.1) hO  ) wm_X9_267 wo_X5_countGrantable ws_X5__X5_countGrantable wz_X5 wc_X5_countGrantable ⟨by decide, by decide, by decide +kernel⟩ rfl ⟨Nat.le_of_ble_eq_true rfl, Nat.le_of_ble_eq_true rfl⟩ (ci := 4) ⟨_, hs0.1 0 _ rfl⟩ rfl hs0.1 hS noA_old ⟨Nat.zero_le _, Nat.zero_le _⟩ hl.1 rfl (Nat.le_of_ble_eq_true rfl) dX9_wouldGrant_4) ?_
  exact pm_iret hF dX9_wouldGrant_7 (rfl)

set_option maxHeartbeats 4000000 in
set_option maxRecDepth 100000 in
theorem m_X9_richest {X : Cx} {l : Launch} (h0 : Init X) {cm : Nat → Nat} {o : Nat} {σ : Sb} (hO : Ok σ.1)  (q : Int32) : PM X l yX9_richest cX9_richest 2 (some .int) 4 95 [.ref o, .int q] (SBH X cm o σ) (.int (fnd (fun z => decide (nI (rankR σ.1 z) = q)) (-1) (σ.1.2 1) 0)) := by
  refine Met.mk (Bh := (SBH X cm o σ)) (by decide) (Nat.le_of_ble_eq_true rfl) ?_
  intro p e s m below meth c ls hF hB hl
  obtain ⟨ow, f, g, hz, hob, hsk, hpa, hre, ⟨cw, ew, nu, hcw, hwo⟩, hin, ⟨ln, lc, hln, hli⟩, hi60⟩ := hB
  have hs0 := hsk 0 (by decide)
  have hl : lv_has ls 2 [(0, .ref o), (1, .int q)] := hl
  obtain ⟨hx, hb, hml, hr, hlk, hown, hG⟩ := id hF
  have hK := hG.K h0
  have hS : va_S noA s.heap s.heap [] := va_S.rf
  have hO1 := hO.1
  have hO2 := hO.2.1
  have hO3 := hO.2.2.1
  refine lv_aload_n hx hb dX9_richest_0 rfl (lv_at hl 0 rfl) ?_
  refine g_get (ci := 8) (v := .ref (f 0 0)) h0 hF inX9 hob.1 0 rfl rfl 0 (by decide) wf_X9_12 rfl rfl dX9_richest_1 ?_
  refine lv_iload_n hx hb dX9_richest_4 rfl (lv_at hl 1 rfl) ?_
  refine core_p (v := .int (fnd (fun z => decide (nI (rankR σ.1 z) = q)) (-1) (σ.1.2 1) 0)) (grV (n := 1) (As := [.int q]) (rest := []) h0 hF (m_X5_roofAtPlace h0 (f := f 0) (k := σ.1) hO  q) wm_X9_270 wo_X5_roofAtPlace ws_X5__X5_roofAtPlace wz_X5 wc_X5_roofAtPlace ⟨by decide, by decide, by decide +kernel⟩ rfl ⟨Nat.le_of_ble_eq_true rfl, Nat.le_of_ble_eq_true rfl⟩ (ci := 4) ⟨_, hs0.1 0 _ rfl⟩ rfl hs0.1 hS noA_old ⟨Nat.zero_le _, Nat.zero_le _⟩ hl.1 rfl (Nat.le_of_ble_eq_true rfl) dX9_richest_5) ?_
  exact pm_iret hF dX9_richest_8 (rfl)

set_option maxHeartbeats 4000000 in
set_option maxRecDepth 100000 in
theorem m_X9_brightest {X : Cx} {l : Launch} (h0 : Init X) {cm : Nat → Nat} {o : Nat} {σ : Sb} (hO : Ok σ.1)  (q : Int32) : PM X l yX9_brightest cX9_brightest 2 (some .int) 2 46 [.ref o, .int q] (SBH X cm o σ) (.int (fnd (fun z => decide (nI (rankS σ.1 z) = q)) (-1) (σ.1.2 0) 0)) := by
  refine Met.mk (Bh := (SBH X cm o σ)) (by decide) (Nat.le_of_ble_eq_true rfl) ?_
  intro p e s m below meth c ls hF hB hl
  obtain ⟨ow, f, g, hz, hob, hsk, hpa, hre, ⟨cw, ew, nu, hcw, hwo⟩, hin, ⟨ln, lc, hln, hli⟩, hi60⟩ := hB
  have hs0 := hsk 0 (by decide)
  have hl : lv_has ls 2 [(0, .ref o), (1, .int q)] := hl
  obtain ⟨hx, hb, hml, hr, hlk, hown, hG⟩ := id hF
  have hK := hG.K h0
  have hS : va_S noA s.heap s.heap [] := va_S.rf
  have hO1 := hO.1
  have hO2 := hO.2.1
  have hO3 := hO.2.2.1
  refine lv_aload_n hx hb dX9_brightest_0 rfl (lv_at hl 0 rfl) ?_
  refine g_get (ci := 8) (v := .ref (f 0 0)) h0 hF inX9 hob.1 0 rfl rfl 0 (by decide) wf_X9_12 rfl rfl dX9_brightest_1 ?_
  refine g_get (ci := 4) (v := .ref (f 0 1)) h0 hF inX5 hs0.1 0 rfl rfl 0 (by decide) wf_X9_54 rfl rfl dX9_brightest_4 ?_
  refine lv_iload_n hx hb dX9_brightest_7 rfl (lv_at hl 1 rfl) ?_
  refine core_p (v := .int (fnd (fun z => decide (nI (rankS σ.1 z) = q)) (-1) (σ.1.2 0) 0)) (grV (n := 1) (As := [.int q]) (rest := []) h0 hF (m_X6_starAtPlace h0 (f := f 0) (k := σ.1) hO  q) wm_X9_273 wo_X6_starAtPlace ws_X6__X6_starAtPlace wz_X6 wc_X6_starAtPlace ⟨by decide, by decide, by decide +kernel⟩ rfl ⟨Nat.le_of_ble_eq_true rfl, Nat.le_of_ble_eq_true rfl⟩ (ci := 5) ⟨_, hs0.1 1 _ rfl⟩ rfl hs0.1 hS noA_old ⟨Nat.zero_le _, Nat.zero_le _⟩ hl.1 rfl (Nat.le_of_ble_eq_true rfl) dX9_brightest_8) ?_
  exact pm_iret hF dX9_brightest_11 (rfl)
