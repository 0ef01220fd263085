set_option maxHeartbeats 4000000 in
set_option maxRecDepth 100000 in
theorem m_X9_star {X : Cx} {l : Launch} (h0 : Init X) {cm : Nat → Nat} {sm o : Nat} {σ : Sb} (hC : StC X cm sm) (hO : Ok σ.1) (hP : Okp σ) (a b : Int32) : MM X l yX9_star cX9_star 3 (some .int) 6 169 0 0 [.ref o, .int a, .int b] (SBH X cm o σ) (fun v H => v = some (.int (oCmd σ.1 σ.2.2.2.2.1 0 a b 0).1) ∧ SBH X cm o (sbChg σ (oCmd σ.1 σ.2.2.2.2.1 0 a b 0)) H) (gA X) := by
  refine Met.mk (Bh := (SBH X cm o σ)) (by decide) (Nat.le_of_ble_eq_true rfl) ?_
  intro p e s m below meth c ls hF hB hl
  have hB0 := hB
  obtain ⟨ow, f, g, hsb⟩ := hB
  obtain ⟨hz, hob, hsk, hpa, hre, ⟨cw, ew, nu, hcw, hwo⟩, hin, ⟨ln, lc, hln, hli⟩, hi60⟩ := id hsb
  have hs0 := hsk 0 (by decide)
  have hl : lv_has ls 3 [(0, .ref o), (1, .int a), (2, .int b)] := hl
  obtain ⟨hx, hb, hml, hr, hlk, hown, hG⟩ := id hF
  have hK := hG.K h0
  have hS : va_S (gA X) s.heap s.heap [] := va_S.rf
  have hAo : ∀ q, q < X.z → ¬ gA X q := fun q h9 (h8 : X.z ≤ q) => absurd h8 (by omega)
  refine lv_aload_n hx hb dX9_star_0 rfl (lv_at hl 0 rfl) ?_
  refine va_gets hx hb (hG.Z hAo (hC.1.1 0 (by decide)).1) hS hown (hG.hts h0 _ _ wf_X9_81) (fun _ h9 => h9) dX9_star_1 ?_
  refine lv_iload_n hx hb dX9_star_4 rfl (lv_at hl 1 rfl) ?_
  refine lv_iload_n hx hb dX9_star_5 rfl (lv_at hl 2 rfl) ?_
  refine lv_iconst (v := 0) hx hb dX9_star_6 (by decide) ?_
  refine core_m (A1 := fun q => X.z ≤ q) (grV (n := 4) (As := [.ref (cm 0), .int a, .int b, .int 0]) (rest := []) h0 hF (m_X9_change h0 (cm := cm) (o := o) (σ := σ) hC hO hP 0 (by decide) a b 0) wm_X9_87 wo_X9_change ws_X9__X9_change wz_X9 wc_X9_change ⟨by decide, by decide, by decide +kernel⟩ rfl ⟨Nat.le_of_ble_eq_true rfl, Nat.le_of_ble_eq_true rfl⟩ (ci := 8) ⟨_, hob.1 0 _ rfl⟩ rfl ⟨ow, f, g, hsb⟩ hS hAo ⟨Nat.le_of_ble_eq_true rfl, Nat.le_of_ble_eq_true rfl⟩ hl.1 rfl (Nat.le_of_ble_eq_true rfl) dX9_star_7) hS (fun q (h8 : X.z ≤ q) => (show X.z ≤ q from h8)) (fun v H locs hq hz1 hk1 hS => ?_)
  obtain ⟨rfl, hsb⟩ := hq
  exact mm_iret hF hS dX9_star_10 (⟨rfl, hsb⟩)

set_option maxHeartbeats 4000000 in
set_option maxRecDepth 100000 in
theorem m_X9_roof {X : Cx} {l : Launch} (h0 : Init X) {cm : Nat → Nat} {sm o : Nat} {σ : Sb} (hC : StC X cm sm) (hO : Ok σ.1) (hP : Okp σ) (a : Int32) : MM X l yX9_roof cX9_roof 2 (some .int) 6 169 0 0 [.ref o, .int a] (SBH X cm o σ) (fun v H => v = some (.int (oCmd σ.1 σ.2.2.2.2.1 1 a 0 0).1) ∧ SBH X cm o (sbChg σ (oCmd σ.1 σ.2.2.2.2.1 1 a 0 0)) H) (gA X) := by
  refine Met.mk (Bh := (SBH X cm o σ)) (by decide) (Nat.le_of_ble_eq_true rfl) ?_
  intro p e s m below meth c ls hF hB hl
  have hB0 := hB
  obtain ⟨ow, f, g, hsb⟩ := hB
  obtain ⟨hz, hob, hsk, hpa, hre, ⟨cw, ew, nu, hcw, hwo⟩, hin, ⟨ln, lc, hln, hli⟩, hi60⟩ := id hsb
  have hs0 := hsk 0 (by decide)
  have hl : lv_has ls 2 [(0, .ref o), (1, .int a)] := hl
  obtain ⟨hx, hb, hml, hr, hlk, hown, hG⟩ := id hF
  have hK := hG.K h0
  have hS : va_S (gA X) s.heap s.heap [] := va_S.rf
  have hAo : ∀ q, q < X.z → ¬ gA X q := fun q h9 (h8 : X.z ≤ q) => absurd h8 (by omega)
  refine lv_aload_n hx hb dX9_roof_0 rfl (lv_at hl 0 rfl) ?_
  refine va_gets hx hb (hG.Z hAo (hC.1.1 1 (by decide)).1) hS hown (hG.hts h0 _ _ wf_X9_91) (fun _ h9 => h9) dX9_roof_1 ?_
  refine lv_iload_n hx hb dX9_roof_4 rfl (lv_at hl 1 rfl) ?_
  refine lv_iconst (v := 0) hx hb dX9_roof_5 (by decide) ?_
  refine lv_iconst (v := 0) hx hb dX9_roof_6 (by decide) ?_
  refine core_m (A1 := fun q => X.z ≤ q) (grV (n := 4) (As := [.ref (cm 1), .int a, .int 0, .int 0]) (rest := []) h0 hF (m_X9_change h0 (cm := cm) (o := o) (σ := σ) hC hO hP 1 (by decide) a 0 0) wm_X9_87 wo_X9_change ws_X9__X9_change wz_X9 wc_X9_change ⟨by decide, by decide, by decide +kernel⟩ rfl ⟨Nat.le_of_ble_eq_true rfl, Nat.le_of_ble_eq_true rfl⟩ (ci := 8) ⟨_, hob.1 0 _ rfl⟩ rfl ⟨ow, f, g, hsb⟩ hS hAo ⟨Nat.le_of_ble_eq_true rfl, Nat.le_of_ble_eq_true rfl⟩ hl.1 rfl (Nat.le_of_ble_eq_true rfl) dX9_roof_7) hS (fun q (h8 : X.z ≤ q) => (show X.z ≤ q from h8)) (fun v H locs hq hz1 hk1 hS => ?_)
  obtain ⟨rfl, hsb⟩ := hq
  exact mm_iret hF hS dX9_roof_10 (⟨rfl, hsb⟩)

set_option maxHeartbeats 4000000 in
set_option maxRecDepth 100000 in
theorem m_X9_cloud {X : Cx} {l : Launch} (h0 : Init X) {cm : Nat → Nat} {sm o : Nat} {σ : Sb} (hC : StC X cm sm) (hO : Ok σ.1) (hP : Okp σ) (a b : Int32) : MM X l yX9_cloud cX9_cloud 3 (some .int) 6 169 0 0 [.ref o, .int a, .int b] (SBH X cm o σ) (fun v H => v = some (.int (oCmd σ.1 σ.2.2.2.2.1 2 a b 0).1) ∧ SBH X cm o (sbChg σ (oCmd σ.1 σ.2.2.2.2.1 2 a b 0)) H) (gA X) := by
  refine Met.mk (Bh := (SBH X cm o σ)) (by decide) (Nat.le_of_ble_eq_true rfl) ?_
  intro p e s m below meth c ls hF hB hl
  have hB0 := hB
  obtain ⟨ow, f, g, hsb⟩ := hB
  obtain ⟨hz, hob, hsk, hpa, hre, ⟨cw, ew, nu, hcw, hwo⟩, hin, ⟨ln, lc, hln, hli⟩, hi60⟩ := id hsb
  have hs0 := hsk 0 (by decide)
  have hl : lv_has ls 3 [(0, .ref o), (1, .int a), (2, .int b)] := hl
  obtain ⟨hx, hb, hml, hr, hlk, hown, hG⟩ := id hF
  have hK := hG.K h0
  have hS : va_S (gA X) s.heap s.heap [] := va_S.rf
  have hAo : ∀ q, q < X.z → ¬ gA X q := fun q h9 (h8 : X.z ≤ q) => absurd h8 (by omega)
  refine lv_aload_n hx hb dX9_cloud_0 rfl (lv_at hl 0 rfl) ?_
  refine va_gets hx hb (hG.Z hAo (hC.1.1 2 (by decide)).1) hS hown (hG.hts h0 _ _ wf_X9_94) (fun _ h9 => h9) dX9_cloud_1 ?_
  refine lv_iload_n hx hb dX9_cloud_4 rfl (lv_at hl 1 rfl) ?_
  refine lv_iload_n hx hb dX9_cloud_5 rfl (lv_at hl 2 rfl) ?_
  refine lv_iconst (v := 0) hx hb dX9_cloud_6 (by decide) ?_
  refine core_m (A1 := fun q => X.z ≤ q) (grV (n := 4) (As := [.ref (cm 2), .int a, .int b, .int 0]) (rest := []) h0 hF (m_X9_change h0 (cm := cm) (o := o) (σ := σ) hC hO hP 2 (by decide) a b 0) wm_X9_87 wo_X9_change ws_X9__X9_change wz_X9 wc_X9_change ⟨by decide, by decide, by decide +kernel⟩ rfl ⟨Nat.le_of_ble_eq_true rfl, Nat.le_of_ble_eq_true rfl⟩ (ci := 8) ⟨_, hob.1 0 _ rfl⟩ rfl ⟨ow, f, g, hsb⟩ hS hAo ⟨Nat.le_of_ble_eq_true rfl, Nat.le_of_ble_eq_true rfl⟩ hl.1 rfl (Nat.le_of_ble_eq_true rfl) dX9_cloud_7) hS (fun q (h8 : X.z ≤ q) => (show X.z ≤ q from h8)) (fun v H locs hq hz1 hk1 hS => ?_)
  obtain ⟨rfl, hsb⟩ := hq
  exact mm_iret hF hS dX9_cloud_10 (⟨rfl, hsb⟩)

set_option maxHeartbeats 4000000 in
set_option maxRecDepth 100000 in
theorem m_X9_sight {X : Cx} {l : Launch} (h0 : Init X) {cm : Nat → Nat} {sm o : Nat} {σ : Sb} (hC : StC X cm sm) (hO : Ok σ.1) (hP : Okp σ) (a b : Int32) : MM X l yX9_sight cX9_sight 3 (some .int) 6 169 0 0 [.ref o, .int a, .int b] (SBH X cm o σ) (fun v H => v = some (.int (oCmd σ.1 σ.2.2.2.2.1 3 a b 0).1) ∧ SBH X cm o (sbChg σ (oCmd σ.1 σ.2.2.2.2.1 3 a b 0)) H) (gA X) := by
  refine Met.mk (Bh := (SBH X cm o σ)) (by decide) (Nat.le_of_ble_eq_true rfl) ?_
  intro p e s m below meth c ls hF hB hl
  have hB0 := hB
  obtain ⟨ow, f, g, hsb⟩ := hB
  obtain ⟨hz, hob, hsk, hpa, hre, ⟨cw, ew, nu, hcw, hwo⟩, hin, ⟨ln, lc, hln, hli⟩, hi60⟩ := id hsb
  have hs0 := hsk 0 (by decide)
  have hl : lv_has ls 3 [(0, .ref o), (1, .int a), (2, .int b)] := hl
  obtain ⟨hx, hb, hml, hr, hlk, hown, hG⟩ := id hF
  have hK := hG.K h0
  have hS : va_S (gA X) s.heap s.heap [] := va_S.rf
  have hAo : ∀ q, q < X.z → ¬ gA X q := fun q h9 (h8 : X.z ≤ q) => absurd h8 (by omega)
  refine lv_aload_n hx hb dX9_sight_0 rfl (lv_at hl 0 rfl) ?_
  refine va_gets hx hb (hG.Z hAo (hC.1.1 3 (by decide)).1) hS hown (hG.hts h0 _ _ wf_X9_97) (fun _ h9 => h9) dX9_sight_1 ?_
  refine lv_iload_n hx hb dX9_sight_4 rfl (lv_at hl 1 rfl) ?_
  refine lv_iload_n hx hb dX9_sight_5 rfl (lv_at hl 2 rfl) ?_
  refine lv_iconst (v := 0) hx hb dX9_sight_6 (by decide) ?_
  refine core_m (A1 := fun q => X.z ≤ q) (grV (n := 4) (As := [.ref (cm 3), .int a, .int b, .int 0]) (rest := []) h0 hF (m_X9_change h0 (cm := cm) (o := o) (σ := σ) hC hO hP 3 (by decide) a b 0) wm_X9_87 wo_X9_change ws_X9__X9_change wz_X9 wc_X9_change ⟨by decide, by decide, by decide +kernel⟩ rfl ⟨Nat.le_of_ble_eq_true rfl, Nat.le_of_ble_eq_true rfl⟩ (ci := 8) ⟨_, hob.1 0 _ rfl⟩ rfl ⟨ow, f, g, hsb⟩ hS hAo ⟨Nat.le_of_ble_eq_true rfl, Nat.le_of_ble_eq_true rfl⟩ hl.1 rfl (Nat.le_of_ble_eq_true rfl) dX9_sight_7) hS (fun q (h8 : X.z ≤ q) => (show X.z ≤ q from h8)) (fun v H locs hq hz1 hk1 hS => ?_)
  obtain ⟨rfl, hsb⟩ := hq
  exact mm_iret hF hS dX9_sight_10 (⟨rfl, hsb⟩)

set_option maxHeartbeats 4000000 in
set_option maxRecDepth 100000 in
theorem m_X9_claim {X : Cx} {l : Launch} (h0 : Init X) {cm : Nat → Nat} {sm o : Nat} {σ : Sb} (hC : StC X cm sm) (hO : Ok σ.1) (hP : Okp σ) (a b : Int32) : MM X l yX9_claim cX9_claim 3 (some .int) 6 169 0 0 [.ref o, .int a, .int b] (SBH X cm o σ) (fun v H => v = some (.int (oCmd σ.1 σ.2.2.2.2.1 4 a b 0).1) ∧ SBH X cm o (sbChg σ (oCmd σ.1 σ.2.2.2.2.1 4 a b 0)) H) (gA X) := by
  refine Met.mk (Bh := (SBH X cm o σ)) (by decide) (Nat.le_of_ble_eq_true rfl) ?_
  intro p e s m below meth c ls hF hB hl
  have hB0 := hB
  obtain ⟨ow, f, g, hsb⟩ := hB
  obtain ⟨hz, hob, hsk, hpa, hre, ⟨cw, ew, nu, hcw, hwo⟩, hin, ⟨ln, lc, hln, hli⟩, hi60⟩ := id hsb
  have hs0 := hsk 0 (by decide)
  have hl : lv_has ls 3 [(0, .ref o), (1, .int a), (2, .int b)] := hl
  obtain ⟨hx, hb, hml, hr, hlk, hown, hG⟩ := id hF
  have hK := hG.K h0
  have hS : va_S (gA X) s.heap s.heap [] := va_S.rf
  have hAo : ∀ q, q < X.z → ¬ gA X q := fun q h9 (h8 : X.z ≤ q) => absurd h8 (by omega)
  refine lv_aload_n hx hb dX9_claim_0 rfl (lv_at hl 0 rfl) ?_
  refine va_gets hx hb (hG.Z hAo (hC.1.1 4 (by decide)).1) hS hown (hG.hts h0 _ _ wf_X9_100) (fun _ h9 => h9) dX9_claim_1 ?_
  refine lv_iload_n hx hb dX9_claim_4 rfl (lv_at hl 1 rfl) ?_
  refine lv_iload_n hx hb dX9_claim_5 rfl (lv_at hl 2 rfl) ?_
  refine lv_iconst (v := 0) hx hb dX9_claim_6 (by decide) ?_
  refine core_m (A1 := fun q => X.z ≤ q) (grV (n := 4) (As := [.ref (cm 4), .int a, .int b, .int 0]) (rest := []) h0 hF (m_X9_change h0 (cm := cm) (o := o) (σ := σ) hC hO hP 4 (by decide) a b 0) wm_X9_87 wo_X9_change ws_X9__X9_change wz_X9 wc_X9_change ⟨by decide, by decide, by decide +kernel⟩ rfl ⟨Nat.le_of_ble_eq_true rfl, Nat.le_of_ble_eq_true rfl⟩ (ci := 8) ⟨_, hob.1 0 _ rfl⟩ rfl ⟨ow, f, g, hsb⟩ hS hAo ⟨Nat.le_of_ble_eq_true rfl, Nat.le_of_ble_eq_true rfl⟩ hl.1 rfl (Nat.le_of_ble_eq_true rfl) dX9_claim_7) hS (fun q (h8 : X.z ≤ q) => (show X.z ≤ q from h8)) (fun v H locs hq hz1 hk1 hS => ?_)
  obtain ⟨rfl, hsb⟩ := hq
  exact mm_iret hF hS dX9_claim_10 (⟨rfl, hsb⟩)

set_option maxHeartbeats 4000000 in
set_option maxRecDepth 100000 in
theorem m_X9_drop {X : Cx} {l : Launch} (h0 : Init X) {cm : Nat → Nat} {sm o : Nat} {σ : Sb} (hC : StC X cm sm) (hO : Ok σ.1) (hP : Okp σ) (a : Int32) : MM X l yX9_drop cX9_drop 2 (some .int) 6 169 0 0 [.ref o, .int a] (SBH X cm o σ) (fun v H => v = some (.int (oCmd σ.1 σ.2.2.2.2.1 5 a 0 0).1) ∧ SBH X cm o (sbChg σ (oCmd σ.1 σ.2.2.2.2.1 5 a 0 0)) H) (gA X) := by
  refine Met.mk (Bh := (SBH X cm o σ)) (by decide) (Nat.le_of_ble_eq_true rfl) ?_
  intro p e s m below meth c ls hF hB hl
  have hB0 := hB
  obtain ⟨ow, f, g, hsb⟩ := hB
  obtain ⟨hz, hob, hsk, hpa, hre, ⟨cw, ew, nu, hcw, hwo⟩, hin, ⟨ln, lc, hln, hli⟩, hi60⟩ := id hsb
  have hs0 := hsk 0 (by decide)
  have hl : lv_has ls 2 [(0, .ref o), (1, .int a)] := hl
  obtain ⟨hx, hb, hml, hr, hlk, hown, hG⟩ := id hF
  have hK := hG.K h0
  have hS : va_S (gA X) s.heap s.heap [] := va_S.rf
  have hAo : ∀ q, q < X.z → ¬ gA X q := fun q h9 (h8 : X.z ≤ q) => absurd h8 (by omega)
  refine lv_aload_n hx hb dX9_drop_0 rfl (lv_at hl 0 rfl) ?_
  refine va_gets hx hb (hG.Z hAo (hC.1.1 5 (by decide)).1) hS hown (hG.hts h0 _ _ wf_X9_103) (fun _ h9 => h9) dX9_drop_1 ?_
  refine lv_iload_n hx hb dX9_drop_4 rfl (lv_at hl 1 rfl) ?_
  refine lv_iconst (v := 0) hx hb dX9_drop_5 (by decide) ?_
  refine lv_iconst (v := 0) hx hb dX9_drop_6 (by decide) ?_
  refine core_m (A1 := fun q => X.z ≤ q) (grV (n := 4) (As := [.ref (cm 5), .int a, .int 0, .int 0]) (rest := []) h0 hF (m_X9_change h0 (cm := cm) (o := o) (σ := σ) hC hO hP 5 (by decide) a 0 0) wm_X9_87 wo_X9_change ws_X9__X9_change wz_X9 wc_X9_change ⟨by decide, by decide, by decide +kernel⟩ rfl ⟨Nat.le_of_ble_eq_true rfl, Nat.le_of_ble_eq_true rfl⟩ (ci := 8) ⟨_, hob.1 0 _ rfl⟩ rfl ⟨ow, f, g, hsb⟩ hS hAo ⟨Nat.le_of_ble_eq_true rfl, Nat.le_of_ble_eq_true rfl⟩ hl.1 rfl (Nat.le_of_ble_eq_true rfl) dX9_drop_7) hS (fun q (h8 : X.z ≤ q) => (show X.z ≤ q from h8)) (fun v H locs hq hz1 hk1 hS => ?_)
  obtain ⟨rfl, hsb⟩ := hq
  exact mm_iret hF hS dX9_drop_10 (⟨rfl, hsb⟩)

set_option maxHeartbeats 4000000 in
set_option maxRecDepth 100000 in
theorem m_X9_wish {X : Cx} {l : Launch} (h0 : Init X) {cm : Nat → Nat} {sm o : Nat} {σ : Sb} (hC : StC X cm sm) (hO : Ok σ.1) (hP : Okp σ) (a b c1 : Int32) : MM X l yX9_wish cX9_wish 4 (some .int) 6 169 0 0 [.ref o, .int a, .int b, .int c1] (SBH X cm o σ) (fun v H => v = some (.int (oCmd σ.1 σ.2.2.2.2.1 6 a b c1).1) ∧ SBH X cm o (sbChg σ (oCmd σ.1 σ.2.2.2.2.1 6 a b c1)) H) (gA X) := by
  refine Met.mk (Bh := (SBH X cm o σ)) (by decide) (Nat.le_of_ble_eq_true rfl) ?_
  intro p e s m below meth c ls hF hB hl
  have hB0 := hB
  obtain ⟨ow, f, g, hsb⟩ := hB
  obtain ⟨hz, hob, hsk, hpa, hre, ⟨cw, ew, nu, hcw, hwo⟩, hin, ⟨ln, lc, hln, hli⟩, hi60⟩ := id hsb
  have hs0 := hsk 0 (by decide)
  have hl : lv_has ls 4 [(0, .ref o), (1, .int a), (2, .int b), (3, .int c1)] := hl
  obtain ⟨hx, hb, hml, hr, hlk, hown, hG⟩ := id hF
  have hK := hG.K h0
  have hS : va_S (gA X) s.heap s.heap [] := va_S.rf
  have hAo : ∀ q, q < X.z → ¬ gA X q := fun q h9 (h8 : X.z ≤ q) => absurd h8 (by omega)
  refine lv_aload_n hx hb dX9_wish_0 rfl (lv_at hl 0 rfl) ?_
  refine va_gets hx hb (hG.Z hAo (hC.1.1 6 (by decide)).1) hS hown (hG.hts h0 _ _ wf_X9_106) (fun _ h9 => h9) dX9_wish_1 ?_
  refine lv_iload_n hx hb dX9_wish_4 rfl (lv_at hl 1 rfl) ?_
  refine lv_iload_n hx hb dX9_wish_5 rfl (lv_at hl 2 rfl) ?_
  refine lv_iload_n hx hb dX9_wish_6 rfl (lv_at hl 3 rfl) ?_
  refine core_m (A1 := fun q => X.z ≤ q) (grV (n := 4) (As := [.ref (cm 6), .int a, .int b, .int c1]) (rest := []) h0 hF (m_X9_change h0 (cm := cm) (o := o) (σ := σ) hC hO hP 6 (by decide) a b c1) wm_X9_87 wo_X9_change ws_X9__X9_change wz_X9 wc_X9_change ⟨by decide, by decide, by decide +kernel⟩ rfl ⟨Nat.le_of_ble_eq_true rfl, Nat.le_of_ble_eq_true rfl⟩ (ci := 8) ⟨_, hob.1 0 _ rfl⟩ rfl ⟨ow, f, g, hsb⟩ hS hAo ⟨Nat.le_of_ble_eq_true rfl, Nat.le_of_ble_eq_true rfl⟩ hl.1 rfl (Nat.le_of_ble_eq_true rfl) dX9_wish_7) hS (fun q (h8 : X.z ≤ q) => (show X.z ≤ q from h8)) (fun v H locs hq hz1 hk1 hS => ?_)
  obtain ⟨rfl, hsb⟩ := hq
  exact mm_iret hF hS dX9_wish_10 (⟨rfl, hsb⟩)

set_option maxHeartbeats 4000000 in
set_option maxRecDepth 100000 in
theorem m_X9_pay {X : Cx} {l : Launch} (h0 : Init X) {cm : Nat → Nat} {sm o : Nat} {σ : Sb} (hC : StC X cm sm) (hO : Ok σ.1) (hP : Okp σ) (a b : Int32) : MM X l yX9_pay cX9_pay 3 (some .int) 6 169 0 0 [.ref o, .int a, .int b] (SBH X cm o σ) (fun v H => v = some (.int (oCmd σ.1 σ.2.2.2.2.1 7 a b 0).1) ∧ SBH X cm o (sbChg σ (oCmd σ.1 σ.2.2.2.2.1 7 a b 0)) H) (gA X) := by
  refine Met.mk (Bh := (SBH X cm o σ)) (by decide) (Nat.le_of_ble_eq_true rfl) ?_
  intro p e s m below meth c ls hF hB hl
  have hB0 := hB
  obtain ⟨ow, f, g, hsb⟩ := hB
  obtain ⟨hz, hob, hsk, hpa, hre, ⟨cw, ew, nu, hcw, hwo⟩, hin, ⟨ln, lc, hln, hli⟩, hi60⟩ := id hsb
  have hs0 := hsk 0 (by decide)
  have hl : lv_has ls 3 [(0, .ref o), (1, .int a), (2, .int b)] := hl
  obtain ⟨hx, hb, hml, hr, hlk, hown, hG⟩ := id hF
  have hK := hG.K h0
  have hS : va_S (gA X) s.heap s.heap [] := va_S.rf
  have hAo : ∀ q, q < X.z → ¬ gA X q := fun q h9 (h8 : X.z ≤ q) => absurd h8 (by omega)
  refine lv_aload_n hx hb dX9_pay_0 rfl (lv_at hl 0 rfl) ?_
  refine va_gets hx hb (hG.Z hAo (hC.1.1 7 (by decide)).1) hS hown (hG.hts h0 _ _ wf_X9_109) (fun _ h9 => h9) dX9_pay_1 ?_
  refine lv_iload_n hx hb dX9_pay_4 rfl (lv_at hl 1 rfl) ?_
  refine lv_iload_n hx hb dX9_pay_5 rfl (lv_at hl 2 rfl) ?_
  refine lv_iconst (v := 0) hx hb dX9_pay_6 (by decide) ?_
  refine core_m (A1 := fun q => X.z ≤ q) (grV (n := 4) (As := [.ref (cm 7), .int a, .int b, .int 0]) (rest := []) h0 hF (m_X9_change h0 (cm := cm) (o := o) (σ := σ) hC hO hP 7 (by decide) a b 0) wm_X9_87 wo_X9_change ws_X9__X9_change wz_X9 wc_X9_change ⟨by decide, by decide, by decide +kernel⟩ rfl ⟨Nat.le_of_ble_eq_true rfl, Nat.le_of_ble_eq_true rfl⟩ (ci := 8) ⟨_, hob.1 0 _ rfl⟩ rfl ⟨ow, f, g, hsb⟩ hS hAo ⟨Nat.le_of_ble_eq_true rfl, Nat.le_of_ble_eq_true rfl⟩ hl.1 rfl (Nat.le_of_ble_eq_true rfl) dX9_pay_7) hS (fun q (h8 : X.z ≤ q) => (show X.z ≤ q from h8)) (fun v H locs hq hz1 hk1 hS => ?_)
  obtain ⟨rfl, hsb⟩ := hq
  exact mm_iret hF hS dX9_pay_10 (⟨rfl, hsb⟩)

set_option maxHeartbeats 4000000 in
set_option maxRecDepth 100000 in
theorem m_X9_pound {X : Cx} {l : Launch} (h0 : Init X) {cm : Nat → Nat} {sm o : Nat} {σ : Sb} (hC : StC X cm sm) (hO : Ok σ.1) (hP : Okp σ) (a : Int32) : MM X l yX9_pound cX9_pound 2 (some .int) 6 169 0 0 [.ref o, .int a] (SBH X cm o σ) (fun v H => v = some (.int (oCmd σ.1 σ.2.2.2.2.1 8 a 0 0).1) ∧ SBH X cm o (sbChg σ (oCmd σ.1 σ.2.2.2.2.1 8 a 0 0)) H) (gA X) := by
  refine Met.mk (Bh := (SBH X cm o σ)) (by decide) (Nat.le_of_ble_eq_true rfl) ?_
  intro p e s m below meth c ls hF hB hl
  have hB0 := hB
  obtain ⟨ow, f, g, hsb⟩ := hB
  obtain ⟨hz, hob, hsk, hpa, hre, ⟨cw, ew, nu, hcw, hwo⟩, hin, ⟨ln, lc, hln, hli⟩, hi60⟩ := id hsb
  have hs0 := hsk 0 (by decide)
  have hl : lv_has ls 2 [(0, .ref o), (1, .int a)] := hl
  obtain ⟨hx, hb, hml, hr, hlk, hown, hG⟩ := id hF
  have hK := hG.K h0
  have hS : va_S (gA X) s.heap s.heap [] := va_S.rf
  have hAo : ∀ q, q < X.z → ¬ gA X q := fun q h9 (h8 : X.z ≤ q) => absurd h8 (by omega)
  refine lv_aload_n hx hb dX9_pound_0 rfl (lv_at hl 0 rfl) ?_
  refine va_gets hx hb (hG.Z hAo (hC.1.1 8 (by decide)).1) hS hown (hG.hts h0 _ _ wf_X9_112) (fun _ h9 => h9) dX9_pound_1 ?_
  refine lv_iload_n hx hb dX9_pound_4 rfl (lv_at hl 1 rfl) ?_
  refine lv_iconst (v := 0) hx hb dX9_pound_5 (by decide) ?_
  refine lv_iconst (v := 0) hx hb dX9_pound_6 (by decide) ?_
  refine core_m (A1 := fun q => X.z ≤ q) (grV (n := 4) (As := [.ref (cm 8), .int a, .int 0, .int 0]) (rest := []) h0 hF (m_X9_change h0 (cm := cm) (o := o) (σ := σ) hC hO hP 8 (by decide) a 0 0) wm_X9_87 wo_X9_change ws_X9__X9_change wz_X9 wc_X9_change ⟨by decide, by decide, by decide +kernel⟩ rfl ⟨Nat.le_of_ble_eq_true rfl, Nat.le_of_ble_eq_true rfl⟩ (ci := 8) ⟨_, hob.1 0 _ rfl⟩ rfl ⟨ow, f, g, hsb⟩ hS hAo ⟨Nat.le_of_ble_eq_true rfl, Nat.le_of_ble_eq_true rfl⟩ hl.1 rfl (Nat.le_of_ble_eq_true rfl) dX9_pound_7) hS (fun q (h8 : X.z ≤ q) => (show X.z ≤ q from h8)) (fun v H locs hq hz1 hk1 hS => ?_)
  obtain ⟨rfl, hsb⟩ := hq
  exact mm_iret hF hS dX9_pound_10 (⟨rfl, hsb⟩)

set_option maxHeartbeats 4000000 in
set_option maxRecDepth 100000 in
theorem m_X9_redeem {X : Cx} {l : Launch} (h0 : Init X) {cm : Nat → Nat} {sm o : Nat} {σ : Sb} (hC : StC X cm sm) (hO : Ok σ.1) (hP : Okp σ) (a : Int32) : MM X l yX9_redeem cX9_redeem 2 (some .int) 6 169 0 0 [.ref o, .int a] (SBH X cm o σ) (fun v H => v = some (.int (oCmd σ.1 σ.2.2.2.2.1 9 a 0 0).1) ∧ SBH X cm o (sbChg σ (oCmd σ.1 σ.2.2.2.2.1 9 a 0 0)) H) (gA X) := by
  refine Met.mk (Bh := (SBH X cm o σ)) (by decide) (Nat.le_of_ble_eq_true rfl) ?_
  intro p e s m below meth c ls hF hB hl
  have hB0 := hB
  obtain ⟨ow, f, g, hsb⟩ := hB
  obtain ⟨hz, hob, hsk, hpa, hre, ⟨cw, ew, nu, hcw, hwo⟩, hin, ⟨ln, lc, hln, hli⟩, hi60⟩ := id hsb
  have hs0 := hsk 0 (by decide)
  have hl : lv_has ls 2 [(0, .ref o), (1, .int a)] := hl
  obtain ⟨hx, hb, hml, hr, hlk, hown, hG⟩ := id hF
  have hK := hG.K h0
  have hS : va_S (gA X) s.heap s.heap [] := va_S.rf
  have hAo : ∀ q, q < X.z → ¬ gA X q := fun q h9 (h8 : X.z ≤ q) => absurd h8 (by omega)
  refine lv_aload_n hx hb dX9_redeem_0 rfl (lv_at hl 0 rfl) ?_
  refine va_gets hx hb (hG.Z hAo (hC.1.1 9 (by decide)).1) hS hown (hG.hts h0 _ _ wf_X9_115) (fun _ h9 => h9) dX9_redeem_1 ?_
  refine lv_iload_n hx hb dX9_redeem_4 rfl (lv_at hl 1 rfl) ?_
  refine lv_iconst (v := 0) hx hb dX9_redeem_5 (by decide) ?_
  refine lv_iconst (v := 0) hx hb dX9_redeem_6 (by decide) ?_
  refine core_m (A1 := fun q => X.z ≤ q) (grV (n := 4) (As := [.ref (cm 9), .int a, .int 0, .int 0]) (rest := []) h0 hF (m_X9_change h0 (cm := cm) (o := o) (σ := σ) hC hO hP 9 (by decide) a 0 0) wm_X9_87 wo_X9_change ws_X9__X9_change wz_X9 wc_X9_change ⟨by decide, by decide, by decide +kernel⟩ rfl ⟨Nat.le_of_ble_eq_true rfl, Nat.le_of_ble_eq_true rfl⟩ (ci := 8) ⟨_, hob.1 0 _ rfl⟩ rfl ⟨ow, f, g, hsb⟩ hS hAo ⟨Nat.le_of_ble_eq_true rfl, Nat.le_of_ble_eq_true rfl⟩ hl.1 rfl (Nat.le_of_ble_eq_true rfl) dX9_redeem_7) hS (fun q (h8 : X.z ≤ q) => (show X.z ≤ q from h8)) (fun v H locs hq hz1 hk1 hS => ?_)
  obtain ⟨rfl, hsb⟩ := hq
  exact mm_iret hF hS dX9_redeem_10 (⟨rfl, hsb⟩)

set_option maxHeartbeats 4000000 in
set_option maxRecDepth 100000 in
theorem m_X9_stay {X : Cx} {l : Launch} (h0 : Init X) {cm : Nat → Nat} {sm o : Nat} {σ : Sb} (hC : StC X cm sm) (hO : Ok σ.1) (hP : Okp σ) (a b : Int32) : MM X l yX9_stay cX9_stay 3 (some .int) 6 169 0 0 [.ref o, .int a, .int b] (SBH X cm o σ) (fun v H => v = some (.int (oCmd σ.1 σ.2.2.2.2.1 10 a b 0).1) ∧ SBH X cm o (sbChg σ (oCmd σ.1 σ.2.2.2.2.1 10 a b 0)) H) (gA X) := by
  refine Met.mk (Bh := (SBH X cm o σ)) (by decide) (Nat.le_of_ble_eq_true rfl) ?_
  intro p e s m below meth c ls hF hB hl
  have hB0 := hB
  obtain ⟨ow, f, g, hsb⟩ := hB
  obtain ⟨hz, hob, hsk, hpa, hre, ⟨cw, ew, nu, hcw, hwo⟩, hin, ⟨ln, lc, hln, hli⟩, hi60⟩ := id hsb
  have hs0 := hsk 0 (by decide)
  have hl : lv_has ls 3 [(0, .ref o), (1, .int a), (2, .int b)] := hl
  obtain ⟨hx, hb, hml, hr, hlk, hown, hG⟩ := id hF
  have hK := hG.K h0
  have hS : va_S (gA X) s.heap s.heap [] := va_S.rf
  have hAo : ∀ q, q < X.z → ¬ gA X q := fun q h9 (h8 : X.z ≤ q) => absurd h8 (by omega)
  refine lv_aload_n hx hb dX9_stay_0 rfl (lv_at hl 0 rfl) ?_
  refine va_gets hx hb (hG.Z hAo (hC.1.1 10 (by decide)).1) hS hown (hG.hts h0 _ _ wf_X9_118) (fun _ h9 => h9) dX9_stay_1 ?_
  refine lv_iload_n hx hb dX9_stay_4 rfl (lv_at hl 1 rfl) ?_
  refine lv_iload_n hx hb dX9_stay_5 rfl (lv_at hl 2 rfl) ?_
  refine lv_iconst (v := 0) hx hb dX9_stay_6 (by decide) ?_
  refine core_m (A1 := fun q => X.z ≤ q) (grV (n := 4) (As := [.ref (cm 10), .int a, .int b, .int 0]) (rest := []) h0 hF (m_X9_change h0 (cm := cm) (o := o) (σ := σ) hC hO hP 10 (by decide) a b 0) wm_X9_87 wo_X9_change ws_X9__X9_change wz_X9 wc_X9_change ⟨by decide, by decide, by decide +kernel⟩ rfl ⟨Nat.le_of_ble_eq_true rfl, Nat.le_of_ble_eq_true rfl⟩ (ci := 8) ⟨_, hob.1 0 _ rfl⟩ rfl ⟨ow, f, g, hsb⟩ hS hAo ⟨Nat.le_of_ble_eq_true rfl, Nat.le_of_ble_eq_true rfl⟩ hl.1 rfl (Nat.le_of_ble_eq_true rfl) dX9_stay_7) hS (fun q (h8 : X.z ≤ q) => (show X.z ≤ q from h8)) (fun v H locs hq hz1 hk1 hS => ?_)
  obtain ⟨rfl, hsb⟩ := hq
  exact mm_iret hF hS dX9_stay_10 (⟨rfl, hsb⟩)

set_option maxHeartbeats 4000000 in
set_option maxRecDepth 100000 in
theorem m_X9_dawn {X : Cx} {l : Launch} (h0 : Init X) {cm : Nat → Nat} {sm o : Nat} {σ : Sb} (hC : StC X cm sm) (hO : Ok σ.1) (hP : Okp σ)  : MM X l yX9_dawn cX9_dawn 1 (some .int) 6 169 0 0 [.ref o] (SBH X cm o σ) (fun v H => v = some (.int (oCmd σ.1 σ.2.2.2.2.1 11 0 0 0).1) ∧ SBH X cm o (sbChg σ (oCmd σ.1 σ.2.2.2.2.1 11 0 0 0)) H) (gA X) := by
  refine Met.mk (Bh := (SBH X cm o σ)) (by decide) (Nat.le_of_ble_eq_true rfl) ?_
  intro p e s m below meth c ls hF hB hl
  have hB0 := hB
  obtain ⟨ow, f, g, hsb⟩ := hB
  obtain ⟨hz, hob, hsk, hpa, hre, ⟨cw, ew, nu, hcw, hwo⟩, hin, ⟨ln, lc, hln, hli⟩, hi60⟩ := id hsb
  have hs0 := hsk 0 (by decide)
  have hl : lv_has ls 1 [(0, .ref o)] := hl
  obtain ⟨hx, hb, hml, hr, hlk, hown, hG⟩ := id hF
  have hK := hG.K h0
  have hS : va_S (gA X) s.heap s.heap [] := va_S.rf
  have hAo : ∀ q, q < X.z → ¬ gA X q := fun q h9 (h8 : X.z ≤ q) => absurd h8 (by omega)
  refine lv_aload_n hx hb dX9_dawn_0 rfl (lv_at hl 0 rfl) ?_
  refine va_gets hx hb (hG.Z hAo (hC.1.1 11 (by decide)).1) hS hown (hG.hts h0 _ _ wf_X9_121) (fun _ h9 => h9) dX9_dawn_1 ?_
  refine lv_iconst (v := 0) hx hb dX9_dawn_4 (by decide) ?_
  refine lv_iconst (v := 0) hx hb dX9_dawn_5 (by decide) ?_
  refine lv_iconst (v := 0) hx hb dX9_dawn_6 (by decide) ?_
  refine core_m (A1 := fun q => X.z ≤ q) (grV (n := 4) (As := [.ref (cm 11), .int 0, .int 0, .int 0]) (rest := []) h0 hF (m_X9_change h0 (cm := cm) (o := o) (σ := σ) hC hO hP 11 (by decide) 0 0 0) wm_X9_87 wo_X9_change ws_X9__X9_change wz_X9 wc_X9_change ⟨by decide, by decide, by decide +kernel⟩ rfl ⟨Nat.le_of_ble_eq_true rfl, Nat.le_of_ble_eq_true rfl⟩ (ci := 8) ⟨_, hob.1 0 _ rfl⟩ rfl ⟨ow, f, g, hsb⟩ hS hAo ⟨Nat.le_of_ble_eq_true rfl, Nat.le_of_ble_eq_true rfl⟩ hl.1 rfl (Nat.le_of_ble_eq_true rfl) dX9_dawn_7) hS (fun q (h8 : X.z ≤ q) => (show X.z ≤ q from h8)) (fun v H locs hq hz1 hk1 hS => ?_)
  obtain ⟨rfl, hsb⟩ := hq
  exact mm_iret hF hS dX9_dawn_10 (⟨rfl, hsb⟩)
