set_option maxHeartbeats 4000000 in
set_option maxRecDepth 100000 in
theorem m_X9_carryOut_0 {X : Cx} {l : Launch} (h0 : Init X) {cm : Nat → Nat} {sm o : Nat} {σ : Sb} {ow : Nat → Nat} {f : Nat → Nat → Nat} {g : Nat → Nat} (hC : StC X cm sm) (hO : Ok σ.1) (a b c1 : Int32) : MM X l yX9_carryOut cX9_carryOut 5 (some .int) 4 87 0 0 [.ref o, .ref (cm 0), .int a, .int b, .int c1] (SBP X cm o σ ow f g) (fun v H => v = some (.int (oCmd σ.1 σ.2.2.2.2.1 0 a b c1).1) ∧ SBP X cm o (sbOp σ (oCmd σ.1 σ.2.2.2.2.1 0 a b c1)) ow f g H) (fun q => ow q = 0 ∨ ow q = 22) := by
  refine Met.mk (Bh := (SBP X cm o σ ow f g)) (by decide) (Nat.le_of_ble_eq_true rfl) ?_
  intro p e s m below meth c ls hF hB hl
  have hsb := hB
  obtain ⟨hz, hob, hsk, hpa, hre, ⟨cw, ew, nu, hcw, hwo⟩, hin, ⟨ln, lc, hln, hli⟩, hi60⟩ := id hsb
  have hs0 := hsk 0 (by decide)
  have hl : lv_has ls 5 [(0, .ref o), (1, .ref (cm 0)), (2, .int a), (3, .int b), (4, .int c1)] := hl
  obtain ⟨hx, hb, hml, hr, hlk, hown, hG⟩ := id hF
  have hK := hG.K h0
  have hS : va_S (fun q => ow q = 0 ∨ ow q = 22) s.heap s.heap [] := va_S.rf
  have hO1 := hO.1
  have hO2 := hO.2.1
  have hO3 := hO.2.2.1
  have hAo : ∀ q, q < X.z → ¬ (fun q => ow q = 0 ∨ ow q = 22) q := fun q h9 (h8 : ow q = 0 ∨ ow q = 22) => absurd (hz q (by omega)) (by omega)
  have hz0 := hz
  refine va_gets hx hb (hG.Z hAo hC.2.1) hS hown (hG.hts h0 _ _ wf_X9_346) (fun _ h9 => h9) dX9_carryOut_0 ?_
  refine lv_aload_n hx hb dX9_carryOut_3 rfl (lv_at hl 1 rfl) ?_
  refine core_p (v := .int 0) (grU (n := 0) (As := []) (rest := [.ref sm]) h0 hF (m_ordinal h0 hC 0 (by decide)) wm_X9_351 wo_Jx29ce0_ordinal_8abf5 ws_X1__X1_ordinal___I wz_Jx29ce0 wc_Jx29ce0_ordinal_8abf5 wy_StarBailiff_Command_Jx29ce0_ordinal___I rfl ⟨by decide, by decide, by decide +kernel⟩ rfl ⟨Nat.le_of_ble_eq_true rfl, Nat.le_of_ble_eq_true rfl⟩ (va_recvE (hG.E hAo hC.1) (by decide : 0 < nmC.length) hS) trivial hS hAo ⟨Nat.le_of_ble_eq_true rfl, Nat.le_of_ble_eq_true rfl⟩ hl.1 rfl (Nat.le_of_ble_eq_true rfl) dX9_carryOut_4) ?_
  refine va_ti hx hb (hG.T hAo hC.2.2.1) hS (i := nI 0) (vp_in_nI (by decide) (by decide)) (v := .int 1) rfl dX9_carryOut_7 ?_
  refine lv_tableIn (x := 1) (off := 64) (tgt := 72) hx hb dX9_carryOut_8 (by decide) (by decide) (by decide) (by decide) ?_
  refine lv_aload_n hx hb dX9_carryOut_72 rfl (lv_at hl 0 rfl) ?_
  refine g_get (ci := 8) (v := .ref (f 0 0)) h0 hF inX9 hob.1 0 rfl rfl 0 (by decide) wf_X9_12 rfl rfl dX9_carryOut_73 ?_
  refine lv_iload_n hx hb dX9_carryOut_76 rfl (lv_at hl 2 rfl) ?_
  refine lv_iload_n hx hb dX9_carryOut_77 rfl (lv_at hl 3 rfl) ?_
  refine lv_aload_n hx hb dX9_carryOut_78 rfl (lv_at hl 0 rfl) ?_
  refine g_get (ci := 8) (v := .ref (g 1)) h0 hF inX9 hob.1 0 rfl rfl 3 (by decide) wf_X9_29 rfl rfl dX9_carryOut_79 ?_
  refine core_m (A1 := fun q => ow q = 0 ∨ ow q = 22) (grV (Bh := (fun H => Tw X ow 0 (skW X (f 0) σ.1) H ∧ Tw X ow 22 (reW (g 1) σ.2.2.2.2.1) H)) (n := 3) (As := [.int a, .int b, .ref (g 1)]) (rest := []) h0 hF (m_X5_addStar h0 (ow := ow) (t := 0) (u := 22) (a := (g 1)) (f := (f 0)) (k := σ.1) (E := σ.2.2.2.2.1) hO (by decide) (fun q h9 => hz q (by omega)) a b) wm_X9_354 wo_X5_addStar ws_X5__X5_addStar wz_X5 wc_X5_addStar ⟨by decide, by decide, by decide +kernel⟩ rfl ⟨Nat.le_of_ble_eq_true rfl, Nat.le_of_ble_eq_true rfl⟩ (ci := 4) ⟨_, hs0.1 0 _ rfl⟩ rfl ⟨hs0, hre⟩ hS hAo ⟨Nat.le_of_ble_eq_true rfl, Nat.le_of_ble_eq_true rfl⟩ hl.1 rfl (Nat.le_of_ble_eq_true rfl) dX9_carryOut_82) hS (fun q (h8 : ow q = 0 ∨ ow q = 22) => (show ow q = 0 ∨ ow q = 22 from by omega)) (fun v H locs hq hz1 hk1 hS => ?_)
  obtain ⟨rfl, hs0, hre⟩ := hq
  have hob := hob.keep hk1 (fun q h9 (h8 : ow q = 0 ∨ ow q = 22) => by omega)
  have hs0 : Tw X ow 0 (skW X (f 0) ((oStar σ.1 σ.2.2.2.2.1 a b).2.1)) H := hs0
  have hre : Tw X ow 22 (reW (g 1) ((oStar σ.1 σ.2.2.2.2.1 a b).2.2)) H := hre
  exact mm_iret hF hS dX9_carryOut_85 (⟨rfl, hsb.op (R := oCmd σ.1 σ.2.2.2.2.1 0 a b c1) hk1 hs0 hre⟩)

set_option maxHeartbeats 4000000 in
set_option maxRecDepth 100000 in
theorem m_X9_carryOut_1 {X : Cx} {l : Launch} (h0 : Init X) {cm : Nat → Nat} {sm o : Nat} {σ : Sb} {ow : Nat → Nat} {f : Nat → Nat → Nat} {g : Nat → Nat} (hC : StC X cm sm) (hO : Ok σ.1) (a b c1 : Int32) : MM X l yX9_carryOut cX9_carryOut 5 (some .int) 4 87 0 0 [.ref o, .ref (cm 1), .int a, .int b, .int c1] (SBP X cm o σ ow f g) (fun v H => v = some (.int (oCmd σ.1 σ.2.2.2.2.1 1 a b c1).1) ∧ SBP X cm o (sbOp σ (oCmd σ.1 σ.2.2.2.2.1 1 a b c1)) ow f g H) (fun q => ow q = 0 ∨ ow q = 22) := by
  refine Met.mk (Bh := (SBP X cm o σ ow f g)) (by decide) (Nat.le_of_ble_eq_true rfl) ?_
  intro p e s m below meth c ls hF hB hl
  have hsb := hB
  obtain ⟨hz, hob, hsk, hpa, hre, ⟨cw, ew, nu, hcw, hwo⟩, hin, ⟨ln, lc, hln, hli⟩, hi60⟩ := id hsb
  have hs0 := hsk 0 (by decide)
  have hl : lv_has ls 5 [(0, .ref o), (1, .ref (cm 1)), (2, .int a), (3, .int b), (4, .int c1)] := hl
  obtain ⟨hx, hb, hml, hr, hlk, hown, hG⟩ := id hF
  have hK := hG.K h0
  have hS : va_S (fun q => ow q = 0 ∨ ow q = 22) s.heap s.heap [] := va_S.rf
  have hO1 := hO.1
  have hO2 := hO.2.1
  have hO3 := hO.2.2.1
  have hAo : ∀ q, q < X.z → ¬ (fun q => ow q = 0 ∨ ow q = 22) q := fun q h9 (h8 : ow q = 0 ∨ ow q = 22) => absurd (hz q (by omega)) (by omega)
  have hz0 := hz
  refine va_gets hx hb (hG.Z hAo hC.2.1) hS hown (hG.hts h0 _ _ wf_X9_346) (fun _ h9 => h9) dX9_carryOut_0 ?_
  refine lv_aload_n hx hb dX9_carryOut_3 rfl (lv_at hl 1 rfl) ?_
  refine core_p (v := .int 1) (grU (n := 0) (As := []) (rest := [.ref sm]) h0 hF (m_ordinal h0 hC 1 (by decide)) wm_X9_351 wo_Jx29ce0_ordinal_8abf5 ws_X1__X1_ordinal___I wz_Jx29ce0 wc_Jx29ce0_ordinal_8abf5 wy_StarBailiff_Command_Jx29ce0_ordinal___I rfl ⟨by decide, by decide, by decide +kernel⟩ rfl ⟨Nat.le_of_ble_eq_true rfl, Nat.le_of_ble_eq_true rfl⟩ (va_recvE (hG.E hAo hC.1) (by decide : 1 < nmC.length) hS) trivial hS hAo ⟨Nat.le_of_ble_eq_true rfl, Nat.le_of_ble_eq_true rfl⟩ hl.1 rfl (Nat.le_of_ble_eq_true rfl) dX9_carryOut_4) ?_
  refine va_ti hx hb (hG.T hAo hC.2.2.1) hS (i := nI 1) (vp_in_nI (by decide) (by decide)) (v := .int 2) rfl dX9_carryOut_7 ?_
  refine lv_tableIn (x := 2) (off := 78) (tgt := 86) hx hb dX9_carryOut_8 (by decide) (by decide) (by decide) (by decide) ?_
  refine lv_aload_n hx hb dX9_carryOut_86 rfl (lv_at hl 0 rfl) ?_
  refine g_get (ci := 8) (v := .ref (f 0 0)) h0 hF inX9 hob.1 0 rfl rfl 0 (by decide) wf_X9_12 rfl rfl dX9_carryOut_87 ?_
  refine lv_iload_n hx hb dX9_carryOut_90 rfl (lv_at hl 2 rfl) ?_
  refine lv_aload_n hx hb dX9_carryOut_91 rfl (lv_at hl 0 rfl) ?_
  refine g_get (ci := 8) (v := .ref (g 1)) h0 hF inX9 hob.1 0 rfl rfl 3 (by decide) wf_X9_29 rfl rfl dX9_carryOut_92 ?_
  refine core_m (A1 := fun q => ow q = 0 ∨ ow q = 22) (grV (Bh := (fun H => Tw X ow 0 (skW X (f 0) σ.1) H ∧ Tw X ow 22 (reW (g 1) σ.2.2.2.2.1) H)) (n := 2) (As := [.int a, .ref (g 1)]) (rest := []) h0 hF (m_X5_addRoof h0 (ow := ow) (t := 0) (u := 22) (a := (g 1)) (f := (f 0)) (k := σ.1) (E := σ.2.2.2.2.1) hO (by decide) (fun q h9 => hz q (by omega)) a) wm_X9_358 wo_X5_addRoof ws_X5__X5_addRoof wz_X5 wc_X5_addRoof ⟨by decide, by decide, by decide +kernel⟩ rfl ⟨Nat.le_of_ble_eq_true rfl, Nat.le_of_ble_eq_true rfl⟩ (ci := 4) ⟨_, hs0.1 0 _ rfl⟩ rfl ⟨hs0, hre⟩ hS hAo ⟨Nat.le_of_ble_eq_true rfl, Nat.le_of_ble_eq_true rfl⟩ hl.1 rfl (Nat.le_of_ble_eq_true rfl) dX9_carryOut_95) hS (fun q (h8 : ow q = 0 ∨ ow q = 22) => (show ow q = 0 ∨ ow q = 22 from by omega)) (fun v H locs hq hz1 hk1 hS => ?_)
  obtain ⟨rfl, hs0, hre⟩ := hq
  have hob := hob.keep hk1 (fun q h9 (h8 : ow q = 0 ∨ ow q = 22) => by omega)
  have hs0 : Tw X ow 0 (skW X (f 0) ((oRoof σ.1 σ.2.2.2.2.1 a).2.1)) H := hs0
  have hre : Tw X ow 22 (reW (g 1) ((oRoof σ.1 σ.2.2.2.2.1 a).2.2)) H := hre
  exact mm_iret hF hS dX9_carryOut_98 (⟨rfl, hsb.op (R := oCmd σ.1 σ.2.2.2.2.1 1 a b c1) hk1 hs0 hre⟩)

set_option maxHeartbeats 4000000 in
set_option maxRecDepth 100000 in
theorem m_X9_carryOut_2 {X : Cx} {l : Launch} (h0 : Init X) {cm : Nat → Nat} {sm o : Nat} {σ : Sb} {ow : Nat → Nat} {f : Nat → Nat → Nat} {g : Nat → Nat} (hC : StC X cm sm) (hO : Ok σ.1) (a b c1 : Int32) : MM X l yX9_carryOut cX9_carryOut 5 (some .int) 4 87 0 0 [.ref o, .ref (cm 2), .int a, .int b, .int c1] (SBP X cm o σ ow f g) (fun v H => v = some (.int (oCmd σ.1 σ.2.2.2.2.1 2 a b c1).1) ∧ SBP X cm o (sbOp σ (oCmd σ.1 σ.2.2.2.2.1 2 a b c1)) ow f g H) (fun q => ow q = 0 ∨ ow q = 22) := by
  refine Met.mk (Bh := (SBP X cm o σ ow f g)) (by decide) (Nat.le_of_ble_eq_true rfl) ?_
  intro p e s m below meth c ls hF hB hl
  have hsb := hB
  obtain ⟨hz, hob, hsk, hpa, hre, ⟨cw, ew, nu, hcw, hwo⟩, hin, ⟨ln, lc, hln, hli⟩, hi60⟩ := id hsb
  have hs0 := hsk 0 (by decide)
  have hl : lv_has ls 5 [(0, .ref o), (1, .ref (cm 2)), (2, .int a), (3, .int b), (4, .int c1)] := hl
  obtain ⟨hx, hb, hml, hr, hlk, hown, hG⟩ := id hF
  have hK := hG.K h0
  have hS : va_S (fun q => ow q = 0 ∨ ow q = 22) s.heap s.heap [] := va_S.rf
  have hO1 := hO.1
  have hO2 := hO.2.1
  have hO3 := hO.2.2.1
  have hAo : ∀ q, q < X.z → ¬ (fun q => ow q = 0 ∨ ow q = 22) q := fun q h9 (h8 : ow q = 0 ∨ ow q = 22) => absurd (hz q (by omega)) (by omega)
  have hz0 := hz
  refine va_gets hx hb (hG.Z hAo hC.2.1) hS hown (hG.hts h0 _ _ wf_X9_346) (fun _ h9 => h9) dX9_carryOut_0 ?_
  refine lv_aload_n hx hb dX9_carryOut_3 rfl (lv_at hl 1 rfl) ?_
  refine core_p (v := .int 2) (grU (n := 0) (As := []) (rest := [.ref sm]) h0 hF (m_ordinal h0 hC 2 (by decide)) wm_X9_351 wo_Jx29ce0_ordinal_8abf5 ws_X1__X1_ordinal___I wz_Jx29ce0 wc_Jx29ce0_ordinal_8abf5 wy_StarBailiff_Command_Jx29ce0_ordinal___I rfl ⟨by decide, by decide, by decide +kernel⟩ rfl ⟨Nat.le_of_ble_eq_true rfl, Nat.le_of_ble_eq_true rfl⟩ (va_recvE (hG.E hAo hC.1) (by decide : 2 < nmC.length) hS) trivial hS hAo ⟨Nat.le_of_ble_eq_true rfl, Nat.le_of_ble_eq_true rfl⟩ hl.1 rfl (Nat.le_of_ble_eq_true rfl) dX9_carryOut_4) ?_
  refine va_ti hx hb (hG.T hAo hC.2.2.1) hS (i := nI 2) (vp_in_nI (by decide) (by decide)) (v := .int 3) rfl dX9_carryOut_7 ?_
  refine lv_tableIn (x := 3) (off := 91) (tgt := 99) hx hb dX9_carryOut_8 (by decide) (by decide) (by decide) (by decide) ?_
  refine lv_aload_n hx hb dX9_carryOut_99 rfl (lv_at hl 0 rfl) ?_
  refine g_get (ci := 8) (v := .ref (f 0 0)) h0 hF inX9 hob.1 0 rfl rfl 0 (by decide) wf_X9_12 rfl rfl dX9_carryOut_100 ?_
  refine lv_iload_n hx hb dX9_carryOut_103 rfl (lv_at hl 2 rfl) ?_
  refine lv_iload_n hx hb dX9_carryOut_104 rfl (lv_at hl 3 rfl) ?_
  refine lv_aload_n hx hb dX9_carryOut_105 rfl (lv_at hl 0 rfl) ?_
  refine g_get (ci := 8) (v := .ref (g 1)) h0 hF inX9 hob.1 0 rfl rfl 3 (by decide) wf_X9_29 rfl rfl dX9_carryOut_106 ?_
  refine core_m (A1 := fun q => ow q = 0 ∨ ow q = 22) (grV (Bh := (fun H => Tw X ow 0 (skW X (f 0) σ.1) H ∧ Tw X ow 22 (reW (g 1) σ.2.2.2.2.1) H)) (n := 3) (As := [.int a, .int b, .ref (g 1)]) (rest := []) h0 hF (m_X5_tellCloud h0 (ow := ow) (t := 0) (u := 22) (a := (g 1)) (f := (f 0)) (k := σ.1) (E := σ.2.2.2.2.1) hO (by decide) (fun q h9 => hz q (by omega)) a b) wm_X9_362 wo_X5_tellCloud ws_X5__X5_tellCloud wz_X5 wc_X5_tellCloud ⟨by decide, by decide, by decide +kernel⟩ rfl ⟨Nat.le_of_ble_eq_true rfl, Nat.le_of_ble_eq_true rfl⟩ (ci := 4) ⟨_, hs0.1 0 _ rfl⟩ rfl ⟨hs0, hre⟩ hS hAo ⟨Nat.le_of_ble_eq_true rfl, Nat.le_of_ble_eq_true rfl⟩ hl.1 rfl (Nat.le_of_ble_eq_true rfl) dX9_carryOut_109) hS (fun q (h8 : ow q = 0 ∨ ow q = 22) => (show ow q = 0 ∨ ow q = 22 from by omega)) (fun v H locs hq hz1 hk1 hS => ?_)
  obtain ⟨rfl, hs0, hre⟩ := hq
  have hob := hob.keep hk1 (fun q h9 (h8 : ow q = 0 ∨ ow q = 22) => by omega)
  have hs0 : Tw X ow 0 (skW X (f 0) ((oCloud σ.1 σ.2.2.2.2.1 a b).2.1)) H := hs0
  have hre : Tw X ow 22 (reW (g 1) ((oCloud σ.1 σ.2.2.2.2.1 a b).2.2)) H := hre
  exact mm_iret hF hS dX9_carryOut_112 (⟨rfl, hsb.op (R := oCmd σ.1 σ.2.2.2.2.1 2 a b c1) hk1 hs0 hre⟩)

set_option maxHeartbeats 4000000 in
set_option maxRecDepth 100000 in
theorem m_X9_carryOut_3 {X : Cx} {l : Launch} (h0 : Init X) {cm : Nat → Nat} {sm o : Nat} {σ : Sb} {ow : Nat → Nat} {f : Nat → Nat → Nat} {g : Nat → Nat} (hC : StC X cm sm) (hO : Ok σ.1) (a b c1 : Int32) : MM X l yX9_carryOut cX9_carryOut 5 (some .int) 4 87 0 0 [.ref o, .ref (cm 3), .int a, .int b, .int c1] (SBP X cm o σ ow f g) (fun v H => v = some (.int (oCmd σ.1 σ.2.2.2.2.1 3 a b c1).1) ∧ SBP X cm o (sbOp σ (oCmd σ.1 σ.2.2.2.2.1 3 a b c1)) ow f g H) (fun q => ow q = 0 ∨ ow q = 22) := by
  refine Met.mk (Bh := (SBP X cm o σ ow f g)) (by decide) (Nat.le_of_ble_eq_true rfl) ?_
  intro p e s m below meth c ls hF hB hl
  have hsb := hB
  obtain ⟨hz, hob, hsk, hpa, hre, ⟨cw, ew, nu, hcw, hwo⟩, hin, ⟨ln, lc, hln, hli⟩, hi60⟩ := id hsb
  have hs0 := hsk 0 (by decide)
  have hl : lv_has ls 5 [(0, .ref o), (1, .ref (cm 3)), (2, .int a), (3, .int b), (4, .int c1)] := hl
  obtain ⟨hx, hb, hml, hr, hlk, hown, hG⟩ := id hF
  have hK := hG.K h0
  have hS : va_S (fun q => ow q = 0 ∨ ow q = 22) s.heap s.heap [] := va_S.rf
  have hO1 := hO.1
  have hO2 := hO.2.1
  have hO3 := hO.2.2.1
  have hAo : ∀ q, q < X.z → ¬ (fun q => ow q = 0 ∨ ow q = 22) q := fun q h9 (h8 : ow q = 0 ∨ ow q = 22) => absurd (hz q (by omega)) (by omega)
  have hz0 := hz
  refine va_gets hx hb (hG.Z hAo hC.2.1) hS hown (hG.hts h0 _ _ wf_X9_346) (fun _ h9 => h9) dX9_carryOut_0 ?_
  refine lv_aload_n hx hb dX9_carryOut_3 rfl (lv_at hl 1 rfl) ?_
  refine core_p (v := .int 3) (grU (n := 0) (As := []) (rest := [.ref sm]) h0 hF (m_ordinal h0 hC 3 (by decide)) wm_X9_351 wo_Jx29ce0_ordinal_8abf5 ws_X1__X1_ordinal___I wz_Jx29ce0 wc_Jx29ce0_ordinal_8abf5 wy_StarBailiff_Command_Jx29ce0_ordinal___I rfl ⟨by decide, by decide, by decide +kernel⟩ rfl ⟨Nat.le_of_ble_eq_true rfl, Nat.le_of_ble_eq_true rfl⟩ (va_recvE (hG.E hAo hC.1) (by decide : 3 < nmC.length) hS) trivial hS hAo ⟨Nat.le_of_ble_eq_true rfl, Nat.le_of_ble_eq_true rfl⟩ hl.1 rfl (Nat.le_of_ble_eq_true rfl) dX9_carryOut_4) ?_
  refine va_ti hx hb (hG.T hAo hC.2.2.1) hS (i := nI 3) (vp_in_nI (by decide) (by decide)) (v := .int 4) rfl dX9_carryOut_7 ?_
  refine lv_tableIn (x := 4) (off := 105) (tgt := 113) hx hb dX9_carryOut_8 (by decide) (by decide) (by decide) (by decide) ?_
  refine lv_aload_n hx hb dX9_carryOut_113 rfl (lv_at hl 0 rfl) ?_
  refine g_get (ci := 8) (v := .ref (f 0 0)) h0 hF inX9 hob.1 0 rfl rfl 0 (by decide) wf_X9_12 rfl rfl dX9_carryOut_114 ?_
  refine lv_iload_n hx hb dX9_carryOut_117 rfl (lv_at hl 2 rfl) ?_
  refine lv_iload_n hx hb dX9_carryOut_118 rfl (lv_at hl 3 rfl) ?_
  refine lv_aload_n hx hb dX9_carryOut_119 rfl (lv_at hl 0 rfl) ?_
  refine g_get (ci := 8) (v := .ref (g 1)) h0 hF inX9 hob.1 0 rfl rfl 3 (by decide) wf_X9_29 rfl rfl dX9_carryOut_120 ?_
  refine core_m (A1 := fun q => ow q = 0 ∨ ow q = 22) (grV (Bh := (fun H => Tw X ow 0 (skW X (f 0) σ.1) H ∧ Tw X ow 22 (reW (g 1) σ.2.2.2.2.1) H)) (n := 3) (As := [.int a, .int b, .ref (g 1)]) (rest := []) h0 hF (m_X5_sightStar h0 (ow := ow) (t := 0) (u := 22) (a := (g 1)) (f := (f 0)) (k := σ.1) (E := σ.2.2.2.2.1) hO (by decide) (fun q h9 => hz q (by omega)) a b) wm_X9_365 wo_X5_sightStar ws_X5__X5_sightStar wz_X5 wc_X5_sightStar ⟨by decide, by decide, by decide +kernel⟩ rfl ⟨Nat.le_of_ble_eq_true rfl, Nat.le_of_ble_eq_true rfl⟩ (ci := 4) ⟨_, hs0.1 0 _ rfl⟩ rfl ⟨hs0, hre⟩ hS hAo ⟨Nat.le_of_ble_eq_true rfl, Nat.le_of_ble_eq_true rfl⟩ hl.1 rfl (Nat.le_of_ble_eq_true rfl) dX9_carryOut_123) hS (fun q (h8 : ow q = 0 ∨ ow q = 22) => (show ow q = 0 ∨ ow q = 22 from by omega)) (fun v H locs hq hz1 hk1 hS => ?_)
  obtain ⟨rfl, hs0, hre⟩ := hq
  have hob := hob.keep hk1 (fun q h9 (h8 : ow q = 0 ∨ ow q = 22) => by omega)
  have hs0 : Tw X ow 0 (skW X (f 0) ((oSight σ.1 σ.2.2.2.2.1 a b).2.1)) H := hs0
  have hre : Tw X ow 22 (reW (g 1) ((oSight σ.1 σ.2.2.2.2.1 a b).2.2)) H := hre
  exact mm_iret hF hS dX9_carryOut_126 (⟨rfl, hsb.op (R := oCmd σ.1 σ.2.2.2.2.1 3 a b c1) hk1 hs0 hre⟩)

set_option maxHeartbeats 4000000 in
set_option maxRecDepth 100000 in
theorem m_X9_carryOut_4 {X : Cx} {l : Launch} (h0 : Init X) {cm : Nat → Nat} {sm o : Nat} {σ : Sb} {ow : Nat → Nat} {f : Nat → Nat → Nat} {g : Nat → Nat} (hC : StC X cm sm) (hO : Ok σ.1) (a b c1 : Int32) : MM X l yX9_carryOut cX9_carryOut 5 (some .int) 4 87 0 0 [.ref o, .ref (cm 4), .int a, .int b, .int c1] (SBP X cm o σ ow f g) (fun v H => v = some (.int (oCmd σ.1 σ.2.2.2.2.1 4 a b c1).1) ∧ SBP X cm o (sbOp σ (oCmd σ.1 σ.2.2.2.2.1 4 a b c1)) ow f g H) (fun q => ow q = 0 ∨ ow q = 22) := by
  refine Met.mk (Bh := (SBP X cm o σ ow f g)) (by decide) (Nat.le_of_ble_eq_true rfl) ?_
  intro p e s m below meth c ls hF hB hl
  have hsb := hB
  obtain ⟨hz, hob, hsk, hpa, hre, ⟨cw, ew, nu, hcw, hwo⟩, hin, ⟨ln, lc, hln, hli⟩, hi60⟩ := id hsb
  have hs0 := hsk 0 (by decide)
  have hl : lv_has ls 5 [(0, .ref o), (1, .ref (cm 4)), (2, .int a), (3, .int b), (4, .int c1)] := hl
  obtain ⟨hx, hb, hml, hr, hlk, hown, hG⟩ := id hF
  have hK := hG.K h0
  have hS : va_S (fun q => ow q = 0 ∨ ow q = 22) s.heap s.heap [] := va_S.rf
  have hO1 := hO.1
  have hO2 := hO.2.1
  have hO3 := hO.2.2.1
  have hAo : ∀ q, q < X.z → ¬ (fun q => ow q = 0 ∨ ow q = 22) q := fun q h9 (h8 : ow q = 0 ∨ ow q = 22) => absurd (hz q (by omega)) (by omega)
  have hz0 := hz
  refine va_gets hx hb (hG.Z hAo hC.2.1) hS hown (hG.hts h0 _ _ wf_X9_346) (fun _ h9 => h9) dX9_carryOut_0 ?_
  refine lv_aload_n hx hb dX9_carryOut_3 rfl (lv_at hl 1 rfl) ?_
  refine core_p (v := .int 4) (grU (n := 0) (As := []) (rest := [.ref sm]) h0 hF (m_ordinal h0 hC 4 (by decide)) wm_X9_351 wo_Jx29ce0_ordinal_8abf5 ws_X1__X1_ordinal___I wz_Jx29ce0 wc_Jx29ce0_ordinal_8abf5 wy_StarBailiff_Command_Jx29ce0_ordinal___I rfl ⟨by decide, by decide, by decide +kernel⟩ rfl ⟨Nat.le_of_ble_eq_true rfl, Nat.le_of_ble_eq_true rfl⟩ (va_recvE (hG.E hAo hC.1) (by decide : 4 < nmC.length) hS) trivial hS hAo ⟨Nat.le_of_ble_eq_true rfl, Nat.le_of_ble_eq_true rfl⟩ hl.1 rfl (Nat.le_of_ble_eq_true rfl) dX9_carryOut_4) ?_
  refine va_ti hx hb (hG.T hAo hC.2.2.1) hS (i := nI 4) (vp_in_nI (by decide) (by decide)) (v := .int 5) rfl dX9_carryOut_7 ?_
  refine lv_tableIn (x := 5) (off := 119) (tgt := 127) hx hb dX9_carryOut_8 (by decide) (by decide) (by decide) (by decide) ?_
  refine lv_aload_n hx hb dX9_carryOut_127 rfl (lv_at hl 0 rfl) ?_
  refine g_get (ci := 8) (v := .ref (f 0 0)) h0 hF inX9 hob.1 0 rfl rfl 0 (by decide) wf_X9_12 rfl rfl dX9_carryOut_128 ?_
  refine lv_iload_n hx hb dX9_carryOut_131 rfl (lv_at hl 2 rfl) ?_
  refine lv_iload_n hx hb dX9_carryOut_132 rfl (lv_at hl 3 rfl) ?_
  refine lv_aload_n hx hb dX9_carryOut_133 rfl (lv_at hl 0 rfl) ?_
  refine g_get (ci := 8) (v := .ref (g 1)) h0 hF inX9 hob.1 0 rfl rfl 3 (by decide) wf_X9_29 rfl rfl dX9_carryOut_134 ?_
  refine core_m (A1 := fun q => ow q = 0 ∨ ow q = 22) (grV (Bh := (fun H => Tw X ow 0 (skW X (f 0) σ.1) H ∧ Tw X ow 22 (reW (g 1) σ.2.2.2.2.1) H)) (n := 3) (As := [.int a, .int b, .ref (g 1)]) (rest := []) h0 hF (m_X5_claimStar h0 (ow := ow) (t := 0) (u := 22) (a := (g 1)) (f := (f 0)) (k := σ.1) (E := σ.2.2.2.2.1) hO (by decide) (fun q h9 => hz q (by omega)) a b) wm_X9_368 wo_X5_claimStar ws_X5__X5_claimStar wz_X5 wc_X5_claimStar ⟨by decide, by decide, by decide +kernel⟩ rfl ⟨Nat.le_of_ble_eq_true rfl, Nat.le_of_ble_eq_true rfl⟩ (ci := 4) ⟨_, hs0.1 0 _ rfl⟩ rfl ⟨hs0, hre⟩ hS hAo ⟨Nat.le_of_ble_eq_true rfl, Nat.le_of_ble_eq_true rfl⟩ hl.1 rfl (Nat.le_of_ble_eq_true rfl) dX9_carryOut_137) hS (fun q (h8 : ow q = 0 ∨ ow q = 22) => (show ow q = 0 ∨ ow q = 22 from by omega)) (fun v H locs hq hz1 hk1 hS => ?_)
  obtain ⟨rfl, hs0, hre⟩ := hq
  have hob := hob.keep hk1 (fun q h9 (h8 : ow q = 0 ∨ ow q = 22) => by omega)
  have hs0 : Tw X ow 0 (skW X (f 0) ((oClaim σ.1 σ.2.2.2.2.1 a b).2.1)) H := hs0
  have hre : Tw X ow 22 (reW (g 1) ((oClaim σ.1 σ.2.2.2.2.1 a b).2.2)) H := hre
  exact mm_iret hF hS dX9_carryOut_140 (⟨rfl, hsb.op (R := oCmd σ.1 σ.2.2.2.2.1 4 a b c1) hk1 hs0 hre⟩)

set_option maxHeartbeats 4000000 in
set_option maxRecDepth 100000 in
theorem m_X9_carryOut_5 {X : Cx} {l : Launch} (h0 : Init X) {cm : Nat → Nat} {sm o : Nat} {σ : Sb} {ow : Nat → Nat} {f : Nat → Nat → Nat} {g : Nat → Nat} (hC : StC X cm sm) (hO : Ok σ.1) (a b c1 : Int32) : MM X l yX9_carryOut cX9_carryOut 5 (some .int) 4 87 0 0 [.ref o, .ref (cm 5), .int a, .int b, .int c1] (SBP X cm o σ ow f g) (fun v H => v = some (.int (oCmd σ.1 σ.2.2.2.2.1 5 a b c1).1) ∧ SBP X cm o (sbOp σ (oCmd σ.1 σ.2.2.2.2.1 5 a b c1)) ow f g H) (fun q => ow q = 0 ∨ ow q = 22) := by
  refine Met.mk (Bh := (SBP X cm o σ ow f g)) (by decide) (Nat.le_of_ble_eq_true rfl) ?_
  intro p e s m below meth c ls hF hB hl
  have hsb := hB
  obtain ⟨hz, hob, hsk, hpa, hre, ⟨cw, ew, nu, hcw, hwo⟩, hin, ⟨ln, lc, hln, hli⟩, hi60⟩ := id hsb
  have hs0 := hsk 0 (by decide)
  have hl : lv_has ls 5 [(0, .ref o), (1, .ref (cm 5)), (2, .int a), (3, .int b), (4, .int c1)] := hl
  obtain ⟨hx, hb, hml, hr, hlk, hown, hG⟩ := id hF
  have hK := hG.K h0
  have hS : va_S (fun q => ow q = 0 ∨ ow q = 22) s.heap s.heap [] := va_S.rf
  have hO1 := hO.1
  have hO2 := hO.2.1
  have hO3 := hO.2.2.1
  have hAo : ∀ q, q < X.z → ¬ (fun q => ow q = 0 ∨ ow q = 22) q := fun q h9 (h8 : ow q = 0 ∨ ow q = 22) => absurd (hz q (by omega)) (by omega)
  have hz0 := hz
  refine va_gets hx hb (hG.Z hAo hC.2.1) hS hown (hG.hts h0 _ _ wf_X9_346) (fun _ h9 => h9) dX9_carryOut_0 ?_
  refine lv_aload_n hx hb dX9_carryOut_3 rfl (lv_at hl 1 rfl) ?_
  refine core_p (v := .int 5) (grU (n := 0) (As := []) (rest := [.ref sm]) h0 hF (m_ordinal h0 hC 5 (by decide)) wm_X9_351 wo_Jx29ce0_ordinal_8abf5 ws_X1__X1_ordinal___I wz_Jx29ce0 wc_Jx29ce0_ordinal_8abf5 wy_StarBailiff_Command_Jx29ce0_ordinal___I rfl ⟨by decide, by decide, by decide +kernel⟩ rfl ⟨Nat.le_of_ble_eq_true rfl, Nat.le_of_ble_eq_true rfl⟩ (va_recvE (hG.E hAo hC.1) (by decide : 5 < nmC.length) hS) trivial hS hAo ⟨Nat.le_of_ble_eq_true rfl, Nat.le_of_ble_eq_true rfl⟩ hl.1 rfl (Nat.le_of_ble_eq_true rfl) dX9_carryOut_4) ?_
  refine va_ti hx hb (hG.T hAo hC.2.2.1) hS (i := nI 5) (vp_in_nI (by decide) (by decide)) (v := .int 6) rfl dX9_carryOut_7 ?_
  refine lv_tableIn (x := 6) (off := 133) (tgt := 141) hx hb dX9_carryOut_8 (by decide) (by decide) (by decide) (by decide) ?_
  refine lv_aload_n hx hb dX9_carryOut_141 rfl (lv_at hl 0 rfl) ?_
  refine g_get (ci := 8) (v := .ref (f 0 0)) h0 hF inX9 hob.1 0 rfl rfl 0 (by decide) wf_X9_12 rfl rfl dX9_carryOut_142 ?_
  refine lv_iload_n hx hb dX9_carryOut_145 rfl (lv_at hl 2 rfl) ?_
  refine lv_aload_n hx hb dX9_carryOut_146 rfl (lv_at hl 0 rfl) ?_
  refine g_get (ci := 8) (v := .ref (g 1)) h0 hF inX9 hob.1 0 rfl rfl 3 (by decide) wf_X9_29 rfl rfl dX9_carryOut_147 ?_
  refine core_m (A1 := fun q => ow q = 0 ∨ ow q = 22) (grV (Bh := (fun H => Tw X ow 0 (skW X (f 0) σ.1) H ∧ Tw X ow 22 (reW (g 1) σ.2.2.2.2.1) H)) (n := 2) (As := [.int a, .ref (g 1)]) (rest := []) h0 hF (m_X5_dropClaim h0 (ow := ow) (t := 0) (u := 22) (a := (g 1)) (f := (f 0)) (k := σ.1) (E := σ.2.2.2.2.1) hO (by decide) (fun q h9 => hz q (by omega)) a) wm_X9_371 wo_X5_dropClaim ws_X5__X5_dropClaim wz_X5 wc_X5_dropClaim ⟨by decide, by decide, by decide +kernel⟩ rfl ⟨Nat.le_of_ble_eq_true rfl, Nat.le_of_ble_eq_true rfl⟩ (ci := 4) ⟨_, hs0.1 0 _ rfl⟩ rfl ⟨hs0, hre⟩ hS hAo ⟨Nat.le_of_ble_eq_true rfl, Nat.le_of_ble_eq_true rfl⟩ hl.1 rfl (Nat.le_of_ble_eq_true rfl) dX9_carryOut_150) hS (fun q (h8 : ow q = 0 ∨ ow q = 22) => (show ow q = 0 ∨ ow q = 22 from by omega)) (fun v H locs hq hz1 hk1 hS => ?_)
  obtain ⟨rfl, hs0, hre⟩ := hq
  have hob := hob.keep hk1 (fun q h9 (h8 : ow q = 0 ∨ ow q = 22) => by omega)
  have hs0 : Tw X ow 0 (skW X (f 0) ((oDrop σ.1 σ.2.2.2.2.1 a).2.1)) H := hs0
  have hre : Tw X ow 22 (reW (g 1) ((oDrop σ.1 σ.2.2.2.2.1 a).2.2)) H := hre
  exact mm_iret hF hS dX9_carryOut_153 (⟨rfl, hsb.op (R := oCmd σ.1 σ.2.2.2.2.1 5 a b c1) hk1 hs0 hre⟩)

set_option maxHeartbeats 4000000 in
set_option maxRecDepth 100000 in
theorem m_X9_carryOut_6 {X : Cx} {l : Launch} (h0 : Init X) {cm : Nat → Nat} {sm o : Nat} {σ : Sb} {ow : Nat → Nat} {f : Nat → Nat → Nat} {g : Nat → Nat} (hC : StC X cm sm) (hO : Ok σ.1) (a b c1 : Int32) : MM X l yX9_carryOut cX9_carryOut 5 (some .int) 4 87 0 0 [.ref o, .ref (cm 6), .int a, .int b, .int c1] (SBP X cm o σ ow f g) (fun v H => v = some (.int (oCmd σ.1 σ.2.2.2.2.1 6 a b c1).1) ∧ SBP X cm o (sbOp σ (oCmd σ.1 σ.2.2.2.2.1 6 a b c1)) ow f g H) (fun q => ow q = 0 ∨ ow q = 22) := by
  refine Met.mk (Bh := (SBP X cm o σ ow f g)) (by decide) (Nat.le_of_ble_eq_true rfl) ?_
  intro p e s m below meth c ls hF hB hl
  have hsb := hB
  obtain ⟨hz, hob, hsk, hpa, hre, ⟨cw, ew, nu, hcw, hwo⟩, hin, ⟨ln, lc, hln, hli⟩, hi60⟩ := id hsb
  have hs0 := hsk 0 (by decide)
  have hl : lv_has ls 5 [(0, .ref o), (1, .ref (cm 6)), (2, .int a), (3, .int b), (4, .int c1)] := hl
  obtain ⟨hx, hb, hml, hr, hlk, hown, hG⟩ := id hF
  have hK := hG.K h0
  have hS : va_S (fun q => ow q = 0 ∨ ow q = 22) s.heap s.heap [] := va_S.rf
  have hO1 := hO.1
  have hO2 := hO.2.1
  have hO3 := hO.2.2.1
  have hAo : ∀ q, q < X.z → ¬ (fun q => ow q = 0 ∨ ow q = 22) q := fun q h9 (h8 : ow q = 0 ∨ ow q = 22) => absurd (hz q (by omega)) (by omega)
  have hz0 := hz
  refine va_gets hx hb (hG.Z hAo hC.2.1) hS hown (hG.hts h0 _ _ wf_X9_346) (fun _ h9 => h9) dX9_carryOut_0 ?_
  refine lv_aload_n hx hb dX9_carryOut_3 rfl (lv_at hl 1 rfl) ?_
  refine core_p (v := .int 6) (grU (n := 0) (As := []) (rest := [.ref sm]) h0 hF (m_ordinal h0 hC 6 (by decide)) wm_X9_351 wo_Jx29ce0_ordinal_8abf5 ws_X1__X1_ordinal___I wz_Jx29ce0 wc_Jx29ce0_ordinal_8abf5 wy_StarBailiff_Command_Jx29ce0_ordinal___I rfl ⟨by decide, by decide, by decide +kernel⟩ rfl ⟨Nat.le_of_ble_eq_true rfl, Nat.le_of_ble_eq_true rfl⟩ (va_recvE (hG.E hAo hC.1) (by decide : 6 < nmC.length) hS) trivial hS hAo ⟨Nat.le_of_ble_eq_true rfl, Nat.le_of_ble_eq_true rfl⟩ hl.1 rfl (Nat.le_of_ble_eq_true rfl) dX9_carryOut_4) ?_
  refine va_ti hx hb (hG.T hAo hC.2.2.1) hS (i := nI 6) (vp_in_nI (by decide) (by decide)) (v := .int 7) rfl dX9_carryOut_7 ?_
  refine lv_tableIn (x := 7) (off := 146) (tgt := 154) hx hb dX9_carryOut_8 (by decide) (by decide) (by decide) (by decide) ?_
  refine lv_aload_n hx hb dX9_carryOut_154 rfl (lv_at hl 0 rfl) ?_
  refine g_get (ci := 8) (v := .ref (f 0 0)) h0 hF inX9 hob.1 0 rfl rfl 0 (by decide) wf_X9_12 rfl rfl dX9_carryOut_155 ?_
  refine lv_iload_n hx hb dX9_carryOut_158 rfl (lv_at hl 2 rfl) ?_
  refine lv_iload_n hx hb dX9_carryOut_159 rfl (lv_at hl 3 rfl) ?_
  refine lv_iload hx hb dX9_carryOut_160 (lv_at hl 4 rfl) ?_
  refine lv_aload_n hx hb dX9_carryOut_162 rfl (lv_at hl 0 rfl) ?_
  refine g_get (ci := 8) (v := .ref (g 1)) h0 hF inX9 hob.1 0 rfl rfl 3 (by decide) wf_X9_29 rfl rfl dX9_carryOut_163 ?_
  refine core_m (A1 := fun q => ow q = 0 ∨ ow q = 22) (grV (Bh := (fun H => Tw X ow 0 (skW X (f 0) σ.1) H ∧ Tw X ow 22 (reW (g 1) σ.2.2.2.2.1) H)) (n := 4) (As := [.int a, .int b, .int c1, .ref (g 1)]) (rest := []) h0 hF (m_X5_addWish h0 (ow := ow) (t := 0) (u := 22) (a := (g 1)) (f := (f 0)) (k := σ.1) (E := σ.2.2.2.2.1) hO (by decide) (fun q h9 => hz q (by omega)) a b c1) wm_X9_374 wo_X5_addWish ws_X5__X5_addWish wz_X5 wc_X5_addWish ⟨by decide, by decide, by decide +kernel⟩ rfl ⟨Nat.le_of_ble_eq_true rfl, Nat.le_of_ble_eq_true rfl⟩ (ci := 4) ⟨_, hs0.1 0 _ rfl⟩ rfl ⟨hs0, hre⟩ hS hAo ⟨Nat.le_of_ble_eq_true rfl, Nat.le_of_ble_eq_true rfl⟩ hl.1 rfl (Nat.le_of_ble_eq_true rfl) dX9_carryOut_166) hS (fun q (h8 : ow q = 0 ∨ ow q = 22) => (show ow q = 0 ∨ ow q = 22 from by omega)) (fun v H locs hq hz1 hk1 hS => ?_)
  obtain ⟨rfl, hs0, hre⟩ := hq
  have hob := hob.keep hk1 (fun q h9 (h8 : ow q = 0 ∨ ow q = 22) => by omega)
  have hs0 : Tw X ow 0 (skW X (f 0) ((oWish σ.1 σ.2.2.2.2.1 a b c1).2.1)) H := hs0
  have hre : Tw X ow 22 (reW (g 1) ((oWish σ.1 σ.2.2.2.2.1 a b c1).2.2)) H := hre
  exact mm_iret hF hS dX9_carryOut_169 (⟨rfl, hsb.op (R := oCmd σ.1 σ.2.2.2.2.1 6 a b c1) hk1 hs0 hre⟩)

set_option maxHeartbeats 4000000 in
set_option maxRecDepth 100000 in
theorem m_X9_carryOut_7 {X : Cx} {l : Launch} (h0 : Init X) {cm : Nat → Nat} {sm o : Nat} {σ : Sb} {ow : Nat → Nat} {f : Nat → Nat → Nat} {g : Nat → Nat} (hC : StC X cm sm) (hO : Ok σ.1) (a b c1 : Int32) : MM X l yX9_carryOut cX9_carryOut 5 (some .int) 4 87 0 0 [.ref o, .ref (cm 7), .int a, .int b, .int c1] (SBP X cm o σ ow f g) (fun v H => v = some (.int (oCmd σ.1 σ.2.2.2.2.1 7 a b c1).1) ∧ SBP X cm o (sbOp σ (oCmd σ.1 σ.2.2.2.2.1 7 a b c1)) ow f g H) (fun q => ow q = 0 ∨ ow q = 22) := by
  refine Met.mk (Bh := (SBP X cm o σ ow f g)) (by decide) (Nat.le_of_ble_eq_true rfl) ?_
  intro p e s m below meth c ls hF hB hl
  have hsb := hB
  obtain ⟨hz, hob, hsk, hpa, hre, ⟨cw, ew, nu, hcw, hwo⟩, hin, ⟨ln, lc, hln, hli⟩, hi60⟩ := id hsb
  have hs0 := hsk 0 (by decide)
  have hl : lv_has ls 5 [(0, .ref o), (1, .ref (cm 7)), (2, .int a), (3, .int b), (4, .int c1)] := hl
  obtain ⟨hx, hb, hml, hr, hlk, hown, hG⟩ := id hF
  have hK := hG.K h0
  have hS : va_S (fun q => ow q = 0 ∨ ow q = 22) s.heap s.heap [] := va_S.rf
  have hO1 := hO.1
  have hO2 := hO.2.1
  have hO3 := hO.2.2.1
  have hAo : ∀ q, q < X.z → ¬ (fun q => ow q = 0 ∨ ow q = 22) q := fun q h9 (h8 : ow q = 0 ∨ ow q = 22) => absurd (hz q (by omega)) (by omega)
  have hz0 := hz
  refine va_gets hx hb (hG.Z hAo hC.2.1) hS hown (hG.hts h0 _ _ wf_X9_346) (fun _ h9 => h9) dX9_carryOut_0 ?_
  refine lv_aload_n hx hb dX9_carryOut_3 rfl (lv_at hl 1 rfl) ?_
  refine core_p (v := .int 7) (grU (n := 0) (As := []) (rest := [.ref sm]) h0 hF (m_ordinal h0 hC 7 (by decide)) wm_X9_351 wo_Jx29ce0_ordinal_8abf5 ws_X1__X1_ordinal___I wz_Jx29ce0 wc_Jx29ce0_ordinal_8abf5 wy_StarBailiff_Command_Jx29ce0_ordinal___I rfl ⟨by decide, by decide, by decide +kernel⟩ rfl ⟨Nat.le_of_ble_eq_true rfl, Nat.le_of_ble_eq_true rfl⟩ (va_recvE (hG.E hAo hC.1) (by decide : 7 < nmC.length) hS) trivial hS hAo ⟨Nat.le_of_ble_eq_true rfl, Nat.le_of_ble_eq_true rfl⟩ hl.1 rfl (Nat.le_of_ble_eq_true rfl) dX9_carryOut_4) ?_
  refine va_ti hx hb (hG.T hAo hC.2.2.1) hS (i := nI 7) (vp_in_nI (by decide) (by decide)) (v := .int 8) rfl dX9_carryOut_7 ?_
  refine lv_tableIn (x := 8) (off := 162) (tgt := 170) hx hb dX9_carryOut_8 (by decide) (by decide) (by decide) (by decide) ?_
  refine lv_aload_n hx hb dX9_carryOut_170 rfl (lv_at hl 0 rfl) ?_
  refine g_get (ci := 8) (v := .ref (f 0 0)) h0 hF inX9 hob.1 0 rfl rfl 0 (by decide) wf_X9_12 rfl rfl dX9_carryOut_171 ?_
  refine lv_iload_n hx hb dX9_carryOut_174 rfl (lv_at hl 2 rfl) ?_
  refine lv_iload_n hx hb dX9_carryOut_175 rfl (lv_at hl 3 rfl) ?_
  refine lv_aload_n hx hb dX9_carryOut_176 rfl (lv_at hl 0 rfl) ?_
  refine g_get (ci := 8) (v := .ref (g 1)) h0 hF inX9 hob.1 0 rfl rfl 3 (by decide) wf_X9_29 rfl rfl dX9_carryOut_177 ?_
  refine core_m (A1 := fun q => ow q = 0 ∨ ow q = 22) (grV (Bh := (fun H => Tw X ow 0 (skW X (f 0) σ.1) H ∧ Tw X ow 22 (reW (g 1) σ.2.2.2.2.1) H)) (n := 3) (As := [.int a, .int b, .ref (g 1)]) (rest := []) h0 hF (m_X5_payDebt h0 (ow := ow) (t := 0) (u := 22) (a := (g 1)) (f := (f 0)) (k := σ.1) (E := σ.2.2.2.2.1) hO (by decide) (fun q h9 => hz q (by omega)) a b) wm_X9_378 wo_X5_payDebt ws_X5__X5_payDebt wz_X5 wc_X5_payDebt ⟨by decide, by decide, by decide +kernel⟩ rfl ⟨Nat.le_of_ble_eq_true rfl, Nat.le_of_ble_eq_true rfl⟩ (ci := 4) ⟨_, hs0.1 0 _ rfl⟩ rfl ⟨hs0, hre⟩ hS hAo ⟨Nat.le_of_ble_eq_true rfl, Nat.le_of_ble_eq_true rfl⟩ hl.1 rfl (Nat.le_of_ble_eq_true rfl) dX9_carryOut_180) hS (fun q (h8 : ow q = 0 ∨ ow q = 22) => (show ow q = 0 ∨ ow q = 22 from by omega)) (fun v H locs hq hz1 hk1 hS => ?_)
  obtain ⟨rfl, hs0, hre⟩ := hq
  have hob := hob.keep hk1 (fun q h9 (h8 : ow q = 0 ∨ ow q = 22) => by omega)
  have hs0 : Tw X ow 0 (skW X (f 0) ((oPay σ.1 σ.2.2.2.2.1 a b).2.1)) H := hs0
  have hre : Tw X ow 22 (reW (g 1) ((oPay σ.1 σ.2.2.2.2.1 a b).2.2)) H := hre
  exact mm_iret hF hS dX9_carryOut_183 (⟨rfl, hsb.op (R := oCmd σ.1 σ.2.2.2.2.1 7 a b c1) hk1 hs0 hre⟩)

set_option maxHeartbeats 4000000 in
set_option maxRecDepth 100000 in
theorem m_X9_carryOut_8 {X : Cx} {l : Launch} (h0 : Init X) {cm : Nat → Nat} {sm o : Nat} {σ : Sb} {ow : Nat → Nat} {f : Nat → Nat → Nat} {g : Nat → Nat} (hC : StC X cm sm) (hO : Ok σ.1) (a b c1 : Int32) : MM X l yX9_carryOut cX9_carryOut 5 (some .int) 4 87 0 0 [.ref o, .ref (cm 8), .int a, .int b, .int c1] (SBP X cm o σ ow f g) (fun v H => v = some (.int (oCmd σ.1 σ.2.2.2.2.1 8 a b c1).1) ∧ SBP X cm o (sbOp σ (oCmd σ.1 σ.2.2.2.2.1 8 a b c1)) ow f g H) (fun q => ow q = 0 ∨ ow q = 22) := by
  refine Met.mk (Bh := (SBP X cm o σ ow f g)) (by decide) (Nat.le_of_ble_eq_true rfl) ?_
  intro p e s m below meth c ls hF hB hl
  have hsb := hB
  obtain ⟨hz, hob, hsk, hpa, hre, ⟨cw, ew, nu, hcw, hwo⟩, hin, ⟨ln, lc, hln, hli⟩, hi60⟩ := id hsb
  have hs0 := hsk 0 (by decide)
  have hl : lv_has ls 5 [(0, .ref o), (1, .ref (cm 8)), (2, .int a), (3, .int b), (4, .int c1)] := hl
  obtain ⟨hx, hb, hml, hr, hlk, hown, hG⟩ := id hF
  have hK := hG.K h0
  have hS : va_S (fun q => ow q = 0 ∨ ow q = 22) s.heap s.heap [] := va_S.rf
  have hO1 := hO.1
  have hO2 := hO.2.1
  have hO3 := hO.2.2.1
  have hAo : ∀ q, q < X.z → ¬ (fun q => ow q = 0 ∨ ow q = 22) q := fun q h9 (h8 : ow q = 0 ∨ ow q = 22) => absurd (hz q (by omega)) (by omega)
  have hz0 := hz
  refine va_gets hx hb (hG.Z hAo hC.2.1) hS hown (hG.hts h0 _ _ wf_X9_346) (fun _ h9 => h9) dX9_carryOut_0 ?_
  refine lv_aload_n hx hb dX9_carryOut_3 rfl (lv_at hl 1 rfl) ?_
  refine core_p (v := .int 8) (grU (n := 0) (As := []) (rest := [.ref sm]) h0 hF (m_ordinal h0 hC 8 (by decide)) wm_X9_351 wo_Jx29ce0_ordinal_8abf5 ws_X1__X1_ordinal___I wz_Jx29ce0 wc_Jx29ce0_ordinal_8abf5 wy_StarBailiff_Command_Jx29ce0_ordinal___I rfl ⟨by decide, by decide, by decide +kernel⟩ rfl ⟨Nat.le_of_ble_eq_true rfl, Nat.le_of_ble_eq_true rfl⟩ (va_recvE (hG.E hAo hC.1) (by decide : 8 < nmC.length) hS) trivial hS hAo ⟨Nat.le_of_ble_eq_true rfl, Nat.le_of_ble_eq_true rfl⟩ hl.1 rfl (Nat.le_of_ble_eq_true rfl) dX9_carryOut_4) ?_
  refine va_ti hx hb (hG.T hAo hC.2.2.1) hS (i := nI 8) (vp_in_nI (by decide) (by decide)) (v := .int 9) rfl dX9_carryOut_7 ?_
  refine lv_tableIn (x := 9) (off := 176) (tgt := 184) hx hb dX9_carryOut_8 (by decide) (by decide) (by decide) (by decide) ?_
  refine lv_aload_n hx hb dX9_carryOut_184 rfl (lv_at hl 0 rfl) ?_
  refine g_get (ci := 8) (v := .ref (f 0 0)) h0 hF inX9 hob.1 0 rfl rfl 0 (by decide) wf_X9_12 rfl rfl dX9_carryOut_185 ?_
  refine lv_iload_n hx hb dX9_carryOut_188 rfl (lv_at hl 2 rfl) ?_
  refine lv_aload_n hx hb dX9_carryOut_189 rfl (lv_at hl 0 rfl) ?_
  refine g_get (ci := 8) (v := .ref (g 1)) h0 hF inX9 hob.1 0 rfl rfl 3 (by decide) wf_X9_29 rfl rfl dX9_carryOut_190 ?_
  refine core_m (A1 := fun q => ow q = 0 ∨ ow q = 22) (grV (Bh := (fun H => Tw X ow 0 (skW X (f 0) σ.1) H ∧ Tw X ow 22 (reW (g 1) σ.2.2.2.2.1) H)) (n := 2) (As := [.int a, .ref (g 1)]) (rest := []) h0 hF (m_X5_poundWishes h0 (ow := ow) (t := 0) (u := 22) (a := (g 1)) (f := (f 0)) (k := σ.1) (E := σ.2.2.2.2.1) hO (by decide) (fun q h9 => hz q (by omega)) a) wm_X9_381 wo_X5_poundWishes ws_X5__X5_poundWishes wz_X5 wc_X5_poundWishes ⟨by decide, by decide, by decide +kernel⟩ rfl ⟨Nat.le_of_ble_eq_true rfl, Nat.le_of_ble_eq_true rfl⟩ (ci := 4) ⟨_, hs0.1 0 _ rfl⟩ rfl ⟨hs0, hre⟩ hS hAo ⟨Nat.le_of_ble_eq_true rfl, Nat.le_of_ble_eq_true rfl⟩ hl.1 rfl (Nat.le_of_ble_eq_true rfl) dX9_carryOut_193) hS (fun q (h8 : ow q = 0 ∨ ow q = 22) => (show ow q = 0 ∨ ow q = 22 from by omega)) (fun v H locs hq hz1 hk1 hS => ?_)
  obtain ⟨rfl, hs0, hre⟩ := hq
  have hob := hob.keep hk1 (fun q h9 (h8 : ow q = 0 ∨ ow q = 22) => by omega)
  have hs0 : Tw X ow 0 (skW X (f 0) ((oPound σ.1 σ.2.2.2.2.1 a).2.1)) H := hs0
  have hre : Tw X ow 22 (reW (g 1) ((oPound σ.1 σ.2.2.2.2.1 a).2.2)) H := hre
  exact mm_iret hF hS dX9_carryOut_196 (⟨rfl, hsb.op (R := oCmd σ.1 σ.2.2.2.2.1 8 a b c1) hk1 hs0 hre⟩)

set_option maxHeartbeats 4000000 in
set_option maxRecDepth 100000 in
theorem m_X9_carryOut_9 {X : Cx} {l : Launch} (h0 : Init X) {cm : Nat → Nat} {sm o : Nat} {σ : Sb} {ow : Nat → Nat} {f : Nat → Nat → Nat} {g : Nat → Nat} (hC : StC X cm sm) (hO : Ok σ.1) (a b c1 : Int32) : MM X l yX9_carryOut cX9_carryOut 5 (some .int) 4 87 0 0 [.ref o, .ref (cm 9), .int a, .int b, .int c1] (SBP X cm o σ ow f g) (fun v H => v = some (.int (oCmd σ.1 σ.2.2.2.2.1 9 a b c1).1) ∧ SBP X cm o (sbOp σ (oCmd σ.1 σ.2.2.2.2.1 9 a b c1)) ow f g H) (fun q => ow q = 0 ∨ ow q = 22) := by
  refine Met.mk (Bh := (SBP X cm o σ ow f g)) (by decide) (Nat.le_of_ble_eq_true rfl) ?_
  intro p e s m below meth c ls hF hB hl
  have hsb := hB
  obtain ⟨hz, hob, hsk, hpa, hre, ⟨cw, ew, nu, hcw, hwo⟩, hin, ⟨ln, lc, hln, hli⟩, hi60⟩ := id hsb
  have hs0 := hsk 0 (by decide)
  have hl : lv_has ls 5 [(0, .ref o), (1, .ref (cm 9)), (2, .int a), (3, .int b), (4, .int c1)] := hl
  obtain ⟨hx, hb, hml, hr, hlk, hown, hG⟩ := id hF
  have hK := hG.K h0
  have hS : va_S (fun q => ow q = 0 ∨ ow q = 22) s.heap s.heap [] := va_S.rf
  have hO1 := hO.1
  have hO2 := hO.2.1
  have hO3 := hO.2.2.1
  have hAo : ∀ q, q < X.z → ¬ (fun q => ow q = 0 ∨ ow q = 22) q := fun q h9 (h8 : ow q = 0 ∨ ow q = 22) => absurd (hz q (by omega)) (by omega)
  have hz0 := hz
  refine va_gets hx hb (hG.Z hAo hC.2.1) hS hown (hG.hts h0 _ _ wf_X9_346) (fun _ h9 => h9) dX9_carryOut_0 ?_
  refine lv_aload_n hx hb dX9_carryOut_3 rfl (lv_at hl 1 rfl) ?_
  refine core_p (v := .int 9) (grU (n := 0) (As := []) (rest := [.ref sm]) h0 hF (m_ordinal h0 hC 9 (by decide)) wm_X9_351 wo_Jx29ce0_ordinal_8abf5 ws_X1__X1_ordinal___I wz_Jx29ce0 wc_Jx29ce0_ordinal_8abf5 wy_StarBailiff_Command_Jx29ce0_ordinal___I rfl ⟨by decide, by decide, by decide +kernel⟩ rfl ⟨Nat.le_of_ble_eq_true rfl, Nat.le_of_ble_eq_true rfl⟩ (va_recvE (hG.E hAo hC.1) (by decide : 9 < nmC.length) hS) trivial hS hAo ⟨Nat.le_of_ble_eq_true rfl, Nat.le_of_ble_eq_true rfl⟩ hl.1 rfl (Nat.le_of_ble_eq_true rfl) dX9_carryOut_4) ?_
  refine va_ti hx hb (hG.T hAo hC.2.2.1) hS (i := nI 9) (vp_in_nI (by decide) (by decide)) (v := .int 10) rfl dX9_carryOut_7 ?_
  refine lv_tableIn (x := 10) (off := 189) (tgt := 197) hx hb dX9_carryOut_8 (by decide) (by decide) (by decide) (by decide) ?_
  refine lv_aload_n hx hb dX9_carryOut_197 rfl (lv_at hl 0 rfl) ?_
  refine g_get (ci := 8) (v := .ref (f 0 0)) h0 hF inX9 hob.1 0 rfl rfl 0 (by decide) wf_X9_12 rfl rfl dX9_carryOut_198 ?_
  refine lv_iload_n hx hb dX9_carryOut_201 rfl (lv_at hl 2 rfl) ?_
  refine lv_aload_n hx hb dX9_carryOut_202 rfl (lv_at hl 0 rfl) ?_
  refine g_get (ci := 8) (v := .ref (g 1)) h0 hF inX9 hob.1 0 rfl rfl 3 (by decide) wf_X9_29 rfl rfl dX9_carryOut_203 ?_
  refine core_m (A1 := fun q => ow q = 0 ∨ ow q = 22) (grV (Bh := (fun H => Tw X ow 0 (skW X (f 0) σ.1) H ∧ Tw X ow 22 (reW (g 1) σ.2.2.2.2.1) H)) (n := 2) (As := [.int a, .ref (g 1)]) (rest := []) h0 hF (m_X5_redeemWish h0 (ow := ow) (t := 0) (u := 22) (a := (g 1)) (f := (f 0)) (k := σ.1) (E := σ.2.2.2.2.1) hO (by decide) (fun q h9 => hz q (by omega)) a) wm_X9_384 wo_X5_redeemWish ws_X5__X5_redeemWish wz_X5 wc_X5_redeemWish ⟨by decide, by decide, by decide +kernel⟩ rfl ⟨Nat.le_of_ble_eq_true rfl, Nat.le_of_ble_eq_true rfl⟩ (ci := 4) ⟨_, hs0.1 0 _ rfl⟩ rfl ⟨hs0, hre⟩ hS hAo ⟨Nat.le_of_ble_eq_true rfl, Nat.le_of_ble_eq_true rfl⟩ hl.1 rfl (Nat.le_of_ble_eq_true rfl) dX9_carryOut_206) hS (fun q (h8 : ow q = 0 ∨ ow q = 22) => (show ow q = 0 ∨ ow q = 22 from by omega)) (fun v H locs hq hz1 hk1 hS => ?_)
  obtain ⟨rfl, hs0, hre⟩ := hq
  have hob := hob.keep hk1 (fun q h9 (h8 : ow q = 0 ∨ ow q = 22) => by omega)
  have hs0 : Tw X ow 0 (skW X (f 0) ((oRedeem σ.1 σ.2.2.2.2.1 a).2.1)) H := hs0
  have hre : Tw X ow 22 (reW (g 1) ((oRedeem σ.1 σ.2.2.2.2.1 a).2.2)) H := hre
  exact mm_iret hF hS dX9_carryOut_209 (⟨rfl, hsb.op (R := oCmd σ.1 σ.2.2.2.2.1 9 a b c1) hk1 hs0 hre⟩)

set_option maxHeartbeats 4000000 in
set_option maxRecDepth 100000 in
theorem m_X9_carryOut_10 {X : Cx} {l : Launch} (h0 : Init X) {cm : Nat → Nat} {sm o : Nat} {σ : Sb} {ow : Nat → Nat} {f : Nat → Nat → Nat} {g : Nat → Nat} (hC : StC X cm sm) (hO : Ok σ.1) (a b c1 : Int32) : MM X l yX9_carryOut cX9_carryOut 5 (some .int) 4 87 0 0 [.ref o, .ref (cm 10), .int a, .int b, .int c1] (SBP X cm o σ ow f g) (fun v H => v = some (.int (oCmd σ.1 σ.2.2.2.2.1 10 a b c1).1) ∧ SBP X cm o (sbOp σ (oCmd σ.1 σ.2.2.2.2.1 10 a b c1)) ow f g H) (fun q => ow q = 0 ∨ ow q = 22) := by
  refine Met.mk (Bh := (SBP X cm o σ ow f g)) (by decide) (Nat.le_of_ble_eq_true rfl) ?_
  intro p e s m below meth c ls hF hB hl
  have hsb := hB
  obtain ⟨hz, hob, hsk, hpa, hre, ⟨cw, ew, nu, hcw, hwo⟩, hin, ⟨ln, lc, hln, hli⟩, hi60⟩ := id hsb
  have hs0 := hsk 0 (by decide)
  have hl : lv_has ls 5 [(0, .ref o), (1, .ref (cm 10)), (2, .int a), (3, .int b), (4, .int c1)] := hl
  obtain ⟨hx, hb, hml, hr, hlk, hown, hG⟩ := id hF
  have hK := hG.K h0
  have hS : va_S (fun q => ow q = 0 ∨ ow q = 22) s.heap s.heap [] := va_S.rf
  have hO1 := hO.1
  have hO2 := hO.2.1
  have hO3 := hO.2.2.1
  have hAo : ∀ q, q < X.z → ¬ (fun q => ow q = 0 ∨ ow q = 22) q := fun q h9 (h8 : ow q = 0 ∨ ow q = 22) => absurd (hz q (by omega)) (by omega)
  have hz0 := hz
  refine va_gets hx hb (hG.Z hAo hC.2.1) hS hown (hG.hts h0 _ _ wf_X9_346) (fun _ h9 => h9) dX9_carryOut_0 ?_
  refine lv_aload_n hx hb dX9_carryOut_3 rfl (lv_at hl 1 rfl) ?_
  refine core_p (v := .int 10) (grU (n := 0) (As := []) (rest := [.ref sm]) h0 hF (m_ordinal h0 hC 10 (by decide)) wm_X9_351 wo_Jx29ce0_ordinal_8abf5 ws_X1__X1_ordinal___I wz_Jx29ce0 wc_Jx29ce0_ordinal_8abf5 wy_StarBailiff_Command_Jx29ce0_ordinal___I rfl ⟨by decide, by decide, by decide +kernel⟩ rfl ⟨Nat.le_of_ble_eq_true rfl, Nat.le_of_ble_eq_true rfl⟩ (va_recvE (hG.E hAo hC.1) (by decide : 10 < nmC.length) hS) trivial hS hAo ⟨Nat.le_of_ble_eq_true rfl, Nat.le_of_ble_eq_true rfl⟩ hl.1 rfl (Nat.le_of_ble_eq_true rfl) dX9_carryOut_4) ?_
  refine va_ti hx hb (hG.T hAo hC.2.2.1) hS (i := nI 10) (vp_in_nI (by decide) (by decide)) (v := .int 11) rfl dX9_carryOut_7 ?_
  refine lv_tableIn (x := 11) (off := 202) (tgt := 210) hx hb dX9_carryOut_8 (by decide) (by decide) (by decide) (by decide) ?_
  refine lv_aload_n hx hb dX9_carryOut_210 rfl (lv_at hl 0 rfl) ?_
  refine g_get (ci := 8) (v := .ref (f 0 0)) h0 hF inX9 hob.1 0 rfl rfl 0 (by decide) wf_X9_12 rfl rfl dX9_carryOut_211 ?_
  refine lv_iload_n hx hb dX9_carryOut_214 rfl (lv_at hl 2 rfl) ?_
  refine lv_iload_n hx hb dX9_carryOut_215 rfl (lv_at hl 3 rfl) ?_
  refine lv_aload_n hx hb dX9_carryOut_216 rfl (lv_at hl 0 rfl) ?_
  refine g_get (ci := 8) (v := .ref (g 1)) h0 hF inX9 hob.1 0 rfl rfl 3 (by decide) wf_X9_29 rfl rfl dX9_carryOut_217 ?_
  refine core_m (A1 := fun q => ow q = 0 ∨ ow q = 22) (grV (Bh := (fun H => Tw X ow 0 (skW X (f 0) σ.1) H ∧ Tw X ow 22 (reW (g 1) σ.2.2.2.2.1) H)) (n := 3) (As := [.int a, .int b, .ref (g 1)]) (rest := []) h0 hF (m_X5_giveStay h0 (ow := ow) (t := 0) (u := 22) (a := (g 1)) (f := (f 0)) (k := σ.1) (E := σ.2.2.2.2.1) hO (by decide) (fun q h9 => hz q (by omega)) a b) wm_X9_387 wo_X5_giveStay ws_X5__X5_giveStay wz_X5 wc_X5_giveStay ⟨by decide, by decide, by decide +kernel⟩ rfl ⟨Nat.le_of_ble_eq_true rfl, Nat.le_of_ble_eq_true rfl⟩ (ci := 4) ⟨_, hs0.1 0 _ rfl⟩ rfl ⟨hs0, hre⟩ hS hAo ⟨Nat.le_of_ble_eq_true rfl, Nat.le_of_ble_eq_true rfl⟩ hl.1 rfl (Nat.le_of_ble_eq_true rfl) dX9_carryOut_220) hS (fun q (h8 : ow q = 0 ∨ ow q = 22) => (show ow q = 0 ∨ ow q = 22 from by omega)) (fun v H locs hq hz1 hk1 hS => ?_)
  obtain ⟨rfl, hs0, hre⟩ := hq
  have hob := hob.keep hk1 (fun q h9 (h8 : ow q = 0 ∨ ow q = 22) => by omega)
  have hs0 : Tw X ow 0 (skW X (f 0) ((oStay σ.1 σ.2.2.2.2.1 a b).2.1)) H := hs0
  have hre : Tw X ow 22 (reW (g 1) ((oStay σ.1 σ.2.2.2.2.1 a b).2.2)) H := hre
  exact mm_iret hF hS dX9_carryOut_223 (⟨rfl, hsb.op (R := oCmd σ.1 σ.2.2.2.2.1 10 a b c1) hk1 hs0 hre⟩)

set_option maxHeartbeats 4000000 in
set_option maxRecDepth 100000 in
theorem m_X9_carryOut_11 {X : Cx} {l : Launch} (h0 : Init X) {cm : Nat → Nat} {sm o : Nat} {σ : Sb} {ow : Nat → Nat} {f : Nat → Nat → Nat} {g : Nat → Nat} (hC : StC X cm sm) (hO : Ok σ.1) (a b c1 : Int32) : MM X l yX9_carryOut cX9_carryOut 5 (some .int) 4 87 0 0 [.ref o, .ref (cm 11), .int a, .int b, .int c1] (SBP X cm o σ ow f g) (fun v H => v = some (.int (oCmd σ.1 σ.2.2.2.2.1 11 a b c1).1) ∧ SBP X cm o (sbOp σ (oCmd σ.1 σ.2.2.2.2.1 11 a b c1)) ow f g H) (fun q => ow q = 0 ∨ ow q = 22) := by
  refine Met.mk (Bh := (SBP X cm o σ ow f g)) (by decide) (Nat.le_of_ble_eq_true rfl) ?_
  intro p e s m below meth c ls hF hB hl
  have hsb := hB
  obtain ⟨hz, hob, hsk, hpa, hre, ⟨cw, ew, nu, hcw, hwo⟩, hin, ⟨ln, lc, hln, hli⟩, hi60⟩ := id hsb
  have hs0 := hsk 0 (by decide)
  have hl : lv_has ls 5 [(0, .ref o), (1, .ref (cm 11)), (2, .int a), (3, .int b), (4, .int c1)] := hl
  obtain ⟨hx, hb, hml, hr, hlk, hown, hG⟩ := id hF
  have hK := hG.K h0
  have hS : va_S (fun q => ow q = 0 ∨ ow q = 22) s.heap s.heap [] := va_S.rf
  have hO1 := hO.1
  have hO2 := hO.2.1
  have hO3 := hO.2.2.1
  have hAo : ∀ q, q < X.z → ¬ (fun q => ow q = 0 ∨ ow q = 22) q := fun q h9 (h8 : ow q = 0 ∨ ow q = 22) => absurd (hz q (by omega)) (by omega)
  have hz0 := hz
  refine va_gets hx hb (hG.Z hAo hC.2.1) hS hown (hG.hts h0 _ _ wf_X9_346) (fun _ h9 => h9) dX9_carryOut_0 ?_
  refine lv_aload_n hx hb dX9_carryOut_3 rfl (lv_at hl 1 rfl) ?_
  refine core_p (v := .int 11) (grU (n := 0) (As := []) (rest := [.ref sm]) h0 hF (m_ordinal h0 hC 11 (by decide)) wm_X9_351 wo_Jx29ce0_ordinal_8abf5 ws_X1__X1_ordinal___I wz_Jx29ce0 wc_Jx29ce0_ordinal_8abf5 wy_StarBailiff_Command_Jx29ce0_ordinal___I rfl ⟨by decide, by decide, by decide +kernel⟩ rfl ⟨Nat.le_of_ble_eq_true rfl, Nat.le_of_ble_eq_true rfl⟩ (va_recvE (hG.E hAo hC.1) (by decide : 11 < nmC.length) hS) trivial hS hAo ⟨Nat.le_of_ble_eq_true rfl, Nat.le_of_ble_eq_true rfl⟩ hl.1 rfl (Nat.le_of_ble_eq_true rfl) dX9_carryOut_4) ?_
  refine va_ti hx hb (hG.T hAo hC.2.2.1) hS (i := nI 11) (vp_in_nI (by decide) (by decide)) (v := .int 12) rfl dX9_carryOut_7 ?_
  refine lv_tableIn (x := 12) (off := 216) (tgt := 224) hx hb dX9_carryOut_8 (by decide) (by decide) (by decide) (by decide) ?_
  refine lv_aload_n hx hb dX9_carryOut_224 rfl (lv_at hl 0 rfl) ?_
  refine g_get (ci := 8) (v := .ref (f 0 0)) h0 hF inX9 hob.1 0 rfl rfl 0 (by decide) wf_X9_12 rfl rfl dX9_carryOut_225 ?_
  refine core_m (A1 := fun q => ow q = 0) (grV (n := 0) (As := []) (rest := []) h0 hF (m_X5_passNight h0 (ow := ow) (t := 0) (f := (f 0)) (k := σ.1) hO (fun q h9 => hz q (by omega))  ) wm_X9_390 wo_X5_passNight ws_X5__X5_passNight wz_X5 wc_X5_passNight ⟨by decide, by decide, by decide +kernel⟩ rfl ⟨Nat.le_of_ble_eq_true rfl, Nat.le_of_ble_eq_true rfl⟩ (ci := 4) ⟨_, hs0.1 0 _ rfl⟩ rfl hs0 hS hAo ⟨Nat.le_of_ble_eq_true rfl, Nat.le_of_ble_eq_true rfl⟩ hl.1 rfl (Nat.le_of_ble_eq_true rfl) dX9_carryOut_228) hS (fun q (h8 : ow q = 0) => (show ow q = 0 ∨ ow q = 22 from by omega)) (fun v H locs hq hz1 hk1 hS => ?_)
  obtain ⟨rfl, hs0⟩ := hq
  have hob := hob.keep hk1 (fun q h9 (h8 : ow q = 0) => by omega)
  have hs0 : Tw X ow 0 (skW X (f 0) ((oDawn σ.1).2)) H := hs0
  have hre := hre.keep hk1 (fun q h9 (h8 : ow q = 0) => by omega)
  exact mm_iret hF hS dX9_carryOut_231 (⟨rfl, hsb.op (R := oCmd σ.1 σ.2.2.2.2.1 11 a b c1) (fun q h1 h2 => hk1 q h1 (fun h3 => h2 (Or.inl h3))) hs0 hre⟩)

theorem m_X9_carryOut {X : Cx} {l : Launch} (h0 : Init X) {cm : Nat → Nat} {sm o : Nat} {σ : Sb} {ow : Nat → Nat} {f : Nat → Nat → Nat} {g : Nat → Nat} (hC : StC X cm sm) (hO : Ok σ.1) (c : Nat) (hc : c < 12) (a b c1 : Int32) : MM X l yX9_carryOut cX9_carryOut 5 (some .int) 4 87 0 0 [.ref o, .ref (cm c), .int a, .int b, .int c1] (SBP X cm o σ ow f g) (fun v H => v = some (.int (oCmd σ.1 σ.2.2.2.2.1 c a b c1).1) ∧ SBP X cm o (sbOp σ (oCmd σ.1 σ.2.2.2.2.1 c a b c1)) ow f g H) (fun q => ow q = 0 ∨ ow q = 22) := by
  match c, hc with
  | 0, _ => exact m_X9_carryOut_0 h0 hC hO a b c1
  | 1, _ => exact m_X9_carryOut_1 h0 hC hO a b c1
  | 2, _ => exact m_X9_carryOut_2 h0 hC hO a b c1
  | 3, _ => exact m_X9_carryOut_3 h0 hC hO a b c1
  | 4, _ => exact m_X9_carryOut_4 h0 hC hO a b c1
  | 5, _ => exact m_X9_carryOut_5 h0 hC hO a b c1
  | 6, _ => exact m_X9_carryOut_6 h0 hC hO a b c1
  | 7, _ => exact m_X9_carryOut_7 h0 hC hO a b c1
  | 8, _ => exact m_X9_carryOut_8 h0 hC hO a b c1
  | 9, _ => exact m_X9_carryOut_9 h0 hC hO a b c1
  | 10, _ => exact m_X9_carryOut_10 h0 hC hO a b c1
  | 11, _ => exact m_X9_carryOut_11 h0 hC hO a b c1
  | n + 12, h => exact absurd h (by omega)
