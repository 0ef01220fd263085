section
variable {p : Program} {l : Launch} {e : Env} {R : Room} {s : State} {m : MethodId} {args : Array Value} {below : List Frame} {meth : Method} {c : Code} {H : Heap} {locs : List Loc} {cells slots : Nat} {Q : State → Prop} {pc : Nat} {ls : Array Slot} {rest : List Value}
theorem lv_gen {x : Int32} (k : ∀ y : Int32, W p l e R s m args below meth c H locs cells slots Q (F0 m pc ls (.int y :: rest))) : W p l e R s m args below meth c H locs cells slots Q (F0 m pc ls (.int x :: rest)) := k x
theorem lv_and16 {x : Int32} (k : ∀ n, n < 65536 → W p l e R s m args below meth c H locs cells slots Q (F0 m pc ls (.int (nI n) :: rest))) : W p l e R s m args below meth c H locs cells slots Q (F0 m pc ls (.int (x &&& 65535) :: rest)) := by
  rw [pk_and x 16 (by decide)]
  exact k _ (Nat.mod_lt _ (by decide))
theorem lv_and4 {x : Int32} (k : ∀ n, n < 16 → W p l e R s m args below meth c H locs cells slots Q (F0 m pc ls (.int (nI n) :: rest))) : W p l e R s m args below meth c H locs cells slots Q (F0 m pc ls (.int (x &&& 15) :: rest)) := by
  rw [pk_and x 4 (by decide)]
  exact k _ (Nat.mod_lt _ (by decide))
end

set_option maxHeartbeats 4000000 in
set_option maxRecDepth 100000 in
theorem m_L_act {X : Cx} {l : Launch} (h0 : Init X) {cm : Nat → Nat} {o : Nat} {σ : Sb} {sm tc tt : Nat} {qf tq : Nat → Nat} {N : Nat} (hC : StC X cm sm) (hW : StW X cm qf tc) (hTT : StT X tq tt) (hI : GI N σ) (hN : N + 4 ≤ 1000000) (x : Int32) : MM X l yL_act cL_act 5 (some .int) 9 206 61 7930 [.ref o, .int x] (SBH X cm o σ) (fun v H => ∃ (a : Int32) (τ : Sb), v = some (.int a) ∧ SBH X cm o τ H ∧ GI (N + 4) τ ∧ (a = -1 ∨ a = -2 ∨ a = -3 → τ.1 = σ.1)) (gA X) := by
  refine Met.mk (Bh := (SBH X cm o σ)) (by decide) (Nat.le_of_ble_eq_true rfl) ?_
  intro p e s m below meth c ls hF hB hl
  have hl : lv_has ls 5 [(0, .ref o), (1, .int x)] := hl
  obtain ⟨hx, hb, hml, hr, hlk, hown, hG⟩ := id hF
  have hK := hG.K h0
  have hS : va_S (gA X) s.heap s.heap [] := va_S.rf
  have hAo : ∀ q, q < X.z → ¬ gA X q := fun q h9 (h8 : X.z ≤ q) => by omega
  have hO := hI.O
  have hOc := hI.Oc
  have hP := hI.P
  have h3 := hI.2.2.2.2.2.1
  have hO1 := hO.1
  have hO2 := hO.2.1
  have hO3 := hO.2.2.1
  have hs28 := hI.2.2.1.1.1
  refine lv_iload_n hx hb dL_act_0 rfl (lv_at hl 1 rfl) ?_
  refine lv_iconst (v := 4) hx hb dL_act_1 (by decide) ?_
  refine lv_ishr hx hb dL_act_2 ?_
  refine lv_gen (fun y2 => ?_)
  refine lv_ldc hx hb hown (hG.hts h0 _ _ wn_L_9) dL_act_3 ?_
  refine lv_iand hx hb dL_act_5 ?_
  refine lv_and16 (fun n9 hn9 => ?_)
  refine lv_istore_n (lv' := [(2, .int (nI n9)), (0, .ref o), (1, .int x)]) hx hb dL_act_6 rfl hl (by decide) rfl (fun ls hl => ?_)
  refine lv_iload_n hx hb dL_act_7 rfl (lv_at hl 0 rfl) ?_
  refine lv_iconst (v := 4) hx hb dL_act_8 (by decide) ?_
  refine lv_irem hx hb dL_act_9 (by decide) ?_
  refine lv_istore_n (lv' := [(3, .int ((nI n9) - (nI n9) / 4 * 4)), (2, .int (nI n9)), (0, .ref o), (1, .int x)]) hx hb dL_act_10 rfl hl (by decide) rfl (fun ls hl => ?_)
  refine lv_iload_n hx hb dL_act_11 rfl (lv_at hl 1 rfl) ?_
  refine lv_iconst (v := 3) hx hb dL_act_12 (by decide) ?_
  refine lv_ishr hx hb dL_act_13 ?_
  refine lv_gen (fun y13 => ?_)
  refine lv_bipush (v := 7) hx hb dL_act_14 (by decide) ?_
  refine lv_irem hx hb dL_act_16 (by decide) ?_
  refine lv_istore (lv' := [(4, .int (y13 - y13 / 7 * 7)), (3, .int ((nI n9) - (nI n9) / 4 * 4)), (2, .int (nI n9)), (0, .ref o), (1, .int x)]) hx hb dL_act_17 hl (by decide) rfl (fun ls hl => ?_)
  refine lv_iload_n hx hb dL_act_19 rfl (lv_at hl 4 rfl) ?_
  refine lv_bipush (v := 15) hx hb dL_act_20 (by decide) ?_
  refine lv_iand hx hb dL_act_22 ?_
  refine lv_and4 (fun c9 hc9 => ?_)
  match c9, hc9 with
  | 0, _ =>
    refine lv_tableIn (x := nI 0) (off := 73) (tgt := 96) hx hb dL_act_23 (by decide) (by decide) (by decide) (by decide) ?_
    refine lv_iload_n hx hb dL_act_96 rfl (lv_at hl 2 rfl) ?_
    refine lv_bipush (v := 32) hx hb dL_act_97 (by decide) ?_
    refine lv_iand hx hb dL_act_99 ?_
    refine lv_gen (fun y99 => ?_)
    refine lv_if_ne (tgt := 122) hx hb dL_act_100 (by decide) (fun c_100 => ?_) (fun c_100 => ?_)
    · refine lv_aload_n hx hb dL_act_122 rfl (lv_at hl 3 rfl) ?_
      refine lv_iload_n hx hb dL_act_123 rfl (lv_at hl 2 rfl) ?_
      refine lv_bipush (v := 6) hx hb dL_act_124 (by decide) ?_
      refine lv_ishr hx hb dL_act_126 ?_
      refine lv_gen (fun y126 => ?_)
      refine lv_bipush (v := 40) hx hb dL_act_127 (by decide) ?_
      refine lv_irem hx hb dL_act_129 (by decide) ?_
      refine core_m (A1 := gA X) (grV (Bh := (SBH X cm o σ)) (n := 1) (As := [.int (y126 - y126 / 40 * 40)]) (rest := []) h0 hF (m_X9_roof h0 (cm := cm) (o := o) (σ := σ) hC hO hP (y126 - y126 / 40 * 40)) wm_L_28 wo_X9_roof ws_X9__X9_roof wz_X9 wc_X9_roof ⟨by decide, by decide, by decide +kernel⟩ rfl ⟨Nat.le_of_ble_eq_true rfl, Nat.le_of_ble_eq_true rfl⟩ (ci := 8) (SBH.rec hB) rfl hB hS hAo ⟨Nat.le_of_ble_eq_true rfl, Nat.le_of_ble_eq_true rfl⟩ hl.1 rfl (Nat.le_of_ble_eq_true rfl) dL_act_130) hS (fun q h8 => h8) (fun v' H locs hq' hz1 hk1 hS => ?_)
      obtain ⟨rfl, hB⟩ := hq'
      obtain ⟨τ, hτ, hB⟩ : ∃ τ, τ = sbChg σ (oCmd σ.1 σ.2.2.2.2.1 1 (y126 - y126 / 40 * 40) 0 0) ∧ SBH X cm o τ H := ⟨_, rfl, hB⟩
      refine W.widen (k := 61) (n := 7930) (by omega) (by omega) ?_
      exact mm_iret hF hS dL_act_133 (⟨_, τ, rfl, hB, act_f hI hN hτ⟩)
    · refine lv_aload_n hx hb dL_act_103 rfl (lv_at hl 3 rfl) ?_
      refine lv_iload_n hx hb dL_act_104 rfl (lv_at hl 2 rfl) ?_
      refine lv_iconst (v := 3) hx hb dL_act_105 (by decide) ?_
      refine lv_ishr hx hb dL_act_106 ?_
      refine lv_gen (fun y106 => ?_)
      refine lv_bipush (v := 11) hx hb dL_act_107 (by decide) ?_
      refine lv_irem hx hb dL_act_109 (by decide) ?_
      refine lv_iload_n hx hb dL_act_110 rfl (lv_at hl 2 rfl) ?_
      refine lv_bipush (v := 6) hx hb dL_act_111 (by decide) ?_
      refine lv_ishr hx hb dL_act_113 ?_
      refine lv_gen (fun y113 => ?_)
      refine lv_iconst (v := 5) hx hb dL_act_114 (by decide) ?_
      refine lv_irem hx hb dL_act_115 (by decide) ?_
      refine core_m (A1 := gA X) (grV (Bh := (SBH X cm o σ)) (n := 2) (As := [.int (y106 - y106 / 11 * 11), .int (y113 - y113 / 5 * 5)]) (rest := []) h0 hF (m_X9_star h0 (cm := cm) (o := o) (σ := σ) hC hO hP (y106 - y106 / 11 * 11) (y113 - y113 / 5 * 5)) wm_L_24 wo_X9_star ws_X9__X9_star wz_X9 wc_X9_star ⟨by decide, by decide, by decide +kernel⟩ rfl ⟨Nat.le_of_ble_eq_true rfl, Nat.le_of_ble_eq_true rfl⟩ (ci := 8) (SBH.rec hB) rfl hB hS hAo ⟨Nat.le_of_ble_eq_true rfl, Nat.le_of_ble_eq_true rfl⟩ hl.1 rfl (Nat.le_of_ble_eq_true rfl) dL_act_116) hS (fun q h8 => h8) (fun v' H locs hq' hz1 hk1 hS => ?_)
      obtain ⟨rfl, hB⟩ := hq'
      obtain ⟨τ, hτ, hB⟩ : ∃ τ, τ = sbChg σ (oCmd σ.1 σ.2.2.2.2.1 0 (y106 - y106 / 11 * 11) (y113 - y113 / 5 * 5) 0) ∧ SBH X cm o τ H := ⟨_, rfl, hB⟩
      refine lv_goto (tgt := 133) hx hb dL_act_119 (by decide) ?_
      refine W.widen (k := 61) (n := 7930) (by omega) (by omega) ?_
      exact mm_iret hF hS dL_act_133 (⟨_, τ, rfl, hB, act_f hI hN hτ⟩)
  | 1, _ =>
    refine lv_tableIn (x := nI 1) (off := 111) (tgt := 134) hx hb dL_act_23 (by decide) (by decide) (by decide) (by decide) ?_
    refine lv_aload_n hx hb dL_act_134 rfl (lv_at hl 3 rfl) ?_
    refine lv_iload_n hx hb dL_act_135 rfl (lv_at hl 2 rfl) ?_
    refine lv_iconst (v := 3) hx hb dL_act_136 (by decide) ?_
    refine lv_ishr hx hb dL_act_137 ?_
    refine lv_gen (fun y137 => ?_)
    refine lv_iconst (v := 5) hx hb dL_act_138 (by decide) ?_
    refine lv_irem hx hb dL_act_139 (by decide) ?_
    refine lv_iload_n hx hb dL_act_140 rfl (lv_at hl 2 rfl) ?_
    refine lv_iconst (v := 5) hx hb dL_act_141 (by decide) ?_
    refine lv_ishr hx hb dL_act_142 ?_
    refine lv_gen (fun y142 => ?_)
    refine lv_bipush (v := 11) hx hb dL_act_143 (by decide) ?_
    refine lv_irem hx hb dL_act_145 (by decide) ?_
    refine core_m (A1 := gA X) (grV (Bh := (SBH X cm o σ)) (n := 2) (As := [.int (y137 - y137 / 5 * 5), .int (y142 - y142 / 11 * 11)]) (rest := []) h0 hF (m_X9_cloud h0 (cm := cm) (o := o) (σ := σ) hC hO hP (y137 - y137 / 5 * 5) (y142 - y142 / 11 * 11)) wm_L_32 wo_X9_cloud ws_X9__X9_cloud wz_X9 wc_X9_cloud ⟨by decide, by decide, by decide +kernel⟩ rfl ⟨Nat.le_of_ble_eq_true rfl, Nat.le_of_ble_eq_true rfl⟩ (ci := 8) (SBH.rec hB) rfl hB hS hAo ⟨Nat.le_of_ble_eq_true rfl, Nat.le_of_ble_eq_true rfl⟩ hl.1 rfl (Nat.le_of_ble_eq_true rfl) dL_act_146) hS (fun q h8 => h8) (fun v' H locs hq' hz1 hk1 hS => ?_)
    obtain ⟨rfl, hB⟩ := hq'
    obtain ⟨τ, hτ, hB⟩ : ∃ τ, τ = sbChg σ (oCmd σ.1 σ.2.2.2.2.1 2 (y137 - y137 / 5 * 5) (y142 - y142 / 11 * 11) 0) ∧ SBH X cm o τ H := ⟨_, rfl, hB⟩
    refine W.widen (k := 61) (n := 7930) (by omega) (by omega) ?_
    exact mm_iret hF hS dL_act_149 (⟨_, τ, rfl, hB, act_f hI hN hτ⟩)
  | 2, _ =>
    refine lv_tableIn (x := nI 2) (off := 127) (tgt := 150) hx hb dL_act_23 (by decide) (by decide) (by decide) (by decide) ?_
    refine lv_aload_n hx hb dL_act_150 rfl (lv_at hl 3 rfl) ?_
    refine lv_iload_n hx hb dL_act_151 rfl (lv_at hl 1 rfl) ?_
    refine lv_iload hx hb dL_act_152 (lv_at hl 0 rfl) ?_
    refine core_m (A1 := gA X) (grV (Bh := (SBH X cm o σ)) (n := 2) (As := [.int ((nI n9) - (nI n9) / 4 * 4), .int (y13 - y13 / 7 * 7)]) (rest := []) h0 hF (m_X9_sight h0 (cm := cm) (o := o) (σ := σ) hC hO hP ((nI n9) - (nI n9) / 4 * 4) (y13 - y13 / 7 * 7)) wm_L_35 wo_X9_sight ws_X9__X9_sight wz_X9 wc_X9_sight ⟨by decide, by decide, by decide +kernel⟩ rfl ⟨Nat.le_of_ble_eq_true rfl, Nat.le_of_ble_eq_true rfl⟩ (ci := 8) (SBH.rec hB) rfl hB hS hAo ⟨Nat.le_of_ble_eq_true rfl, Nat.le_of_ble_eq_true rfl⟩ hl.1 rfl (Nat.le_of_ble_eq_true rfl) dL_act_154) hS (fun q h8 => h8) (fun v' H locs hq' hz1 hk1 hS => ?_)
    obtain ⟨rfl, hB⟩ := hq'
    obtain ⟨τ, hτ, hB⟩ : ∃ τ, τ = sbChg σ (oCmd σ.1 σ.2.2.2.2.1 3 ((nI n9) - (nI n9) / 4 * 4) (y13 - y13 / 7 * 7) 0) ∧ SBH X cm o τ H := ⟨_, rfl, hB⟩
    refine W.widen (k := 61) (n := 7930) (by omega) (by omega) ?_
    exact mm_iret hF hS dL_act_157 (⟨_, τ, rfl, hB, act_f hI hN hτ⟩)
  | 3, _ =>
    refine lv_tableIn (x := nI 3) (off := 127) (tgt := 150) hx hb dL_act_23 (by decide) (by decide) (by decide) (by decide) ?_
    refine lv_aload_n hx hb dL_act_150 rfl (lv_at hl 3 rfl) ?_
    refine lv_iload_n hx hb dL_act_151 rfl (lv_at hl 1 rfl) ?_
    refine lv_iload hx hb dL_act_152 (lv_at hl 0 rfl) ?_
    refine core_m (A1 := gA X) (grV (Bh := (SBH X cm o σ)) (n := 2) (As := [.int ((nI n9) - (nI n9) / 4 * 4), .int (y13 - y13 / 7 * 7)]) (rest := []) h0 hF (m_X9_sight h0 (cm := cm) (o := o) (σ := σ) hC hO hP ((nI n9) - (nI n9) / 4 * 4) (y13 - y13 / 7 * 7)) wm_L_35 wo_X9_sight ws_X9__X9_sight wz_X9 wc_X9_sight ⟨by decide, by decide, by decide +kernel⟩ rfl ⟨Nat.le_of_ble_eq_true rfl, Nat.le_of_ble_eq_true rfl⟩ (ci := 8) (SBH.rec hB) rfl hB hS hAo ⟨Nat.le_of_ble_eq_true rfl, Nat.le_of_ble_eq_true rfl⟩ hl.1 rfl (Nat.le_of_ble_eq_true rfl) dL_act_154) hS (fun q h8 => h8) (fun v' H locs hq' hz1 hk1 hS => ?_)
    obtain ⟨rfl, hB⟩ := hq'
    obtain ⟨τ, hτ, hB⟩ : ∃ τ, τ = sbChg σ (oCmd σ.1 σ.2.2.2.2.1 3 ((nI n9) - (nI n9) / 4 * 4) (y13 - y13 / 7 * 7) 0) ∧ SBH X cm o τ H := ⟨_, rfl, hB⟩
    refine W.widen (k := 61) (n := 7930) (by omega) (by omega) ?_
    exact mm_iret hF hS dL_act_157 (⟨_, τ, rfl, hB, act_f hI hN hτ⟩)
  | 4, _ =>
    refine lv_tableIn (x := nI 4) (off := 127) (tgt := 150) hx hb dL_act_23 (by decide) (by decide) (by decide) (by decide) ?_
    refine lv_aload_n hx hb dL_act_150 rfl (lv_at hl 3 rfl) ?_
    refine lv_iload_n hx hb dL_act_151 rfl (lv_at hl 1 rfl) ?_
    refine lv_iload hx hb dL_act_152 (lv_at hl 0 rfl) ?_
    refine core_m (A1 := gA X) (grV (Bh := (SBH X cm o σ)) (n := 2) (As := [.int ((nI n9) - (nI n9) / 4 * 4), .int (y13 - y13 / 7 * 7)]) (rest := []) h0 hF (m_X9_sight h0 (cm := cm) (o := o) (σ := σ) hC hO hP ((nI n9) - (nI n9) / 4 * 4) (y13 - y13 / 7 * 7)) wm_L_35 wo_X9_sight ws_X9__X9_sight wz_X9 wc_X9_sight ⟨by decide, by decide, by decide +kernel⟩ rfl ⟨Nat.le_of_ble_eq_true rfl, Nat.le_of_ble_eq_true rfl⟩ (ci := 8) (SBH.rec hB) rfl hB hS hAo ⟨Nat.le_of_ble_eq_true rfl, Nat.le_of_ble_eq_true rfl⟩ hl.1 rfl (Nat.le_of_ble_eq_true rfl) dL_act_154) hS (fun q h8 => h8) (fun v' H locs hq' hz1 hk1 hS => ?_)
    obtain ⟨rfl, hB⟩ := hq'
    obtain ⟨τ, hτ, hB⟩ : ∃ τ, τ = sbChg σ (oCmd σ.1 σ.2.2.2.2.1 3 ((nI n9) - (nI n9) / 4 * 4) (y13 - y13 / 7 * 7) 0) ∧ SBH X cm o τ H := ⟨_, rfl, hB⟩
    refine W.widen (k := 61) (n := 7930) (by omega) (by omega) ?_
    exact mm_iret hF hS dL_act_157 (⟨_, τ, rfl, hB, act_f hI hN hτ⟩)
  | 5, _ =>
    refine lv_tableIn (x := nI 5) (off := 135) (tgt := 158) hx hb dL_act_23 (by decide) (by decide) (by decide) (by decide) ?_
    refine lv_aload_n hx hb dL_act_158 rfl (lv_at hl 3 rfl) ?_
    refine lv_iload_n hx hb dL_act_159 rfl (lv_at hl 1 rfl) ?_
    refine lv_iload hx hb dL_act_160 (lv_at hl 0 rfl) ?_
    refine core_m (A1 := gA X) (grV (Bh := (SBH X cm o σ)) (n := 2) (As := [.int ((nI n9) - (nI n9) / 4 * 4), .int (y13 - y13 / 7 * 7)]) (rest := []) h0 hF (m_X9_claim h0 (cm := cm) (o := o) (σ := σ) hC hO hP ((nI n9) - (nI n9) / 4 * 4) (y13 - y13 / 7 * 7)) wm_L_38 wo_X9_claim ws_X9__X9_claim wz_X9 wc_X9_claim ⟨by decide, by decide, by decide +kernel⟩ rfl ⟨Nat.le_of_ble_eq_true rfl, Nat.le_of_ble_eq_true rfl⟩ (ci := 8) (SBH.rec hB) rfl hB hS hAo ⟨Nat.le_of_ble_eq_true rfl, Nat.le_of_ble_eq_true rfl⟩ hl.1 rfl (Nat.le_of_ble_eq_true rfl) dL_act_162) hS (fun q h8 => h8) (fun v' H locs hq' hz1 hk1 hS => ?_)
    obtain ⟨rfl, hB⟩ := hq'
    obtain ⟨τ, hτ, hB⟩ : ∃ τ, τ = sbChg σ (oCmd σ.1 σ.2.2.2.2.1 4 ((nI n9) - (nI n9) / 4 * 4) (y13 - y13 / 7 * 7) 0) ∧ SBH X cm o τ H := ⟨_, rfl, hB⟩
    refine W.widen (k := 61) (n := 7930) (by omega) (by omega) ?_
    exact mm_iret hF hS dL_act_165 (⟨_, τ, rfl, hB, act_f hI hN hτ⟩)
  | 6, _ =>
    refine lv_tableIn (x := nI 6) (off := 143) (tgt := 166) hx hb dL_act_23 (by decide) (by decide) (by decide) (by decide) ?_
    refine lv_iload_n hx hb dL_act_166 rfl (lv_at hl 2 rfl) ?_
    refine lv_bipush (v := 32) hx hb dL_act_167 (by decide) ?_
    refine lv_iand hx hb dL_act_169 ?_
    refine lv_gen (fun y169 => ?_)
    refine lv_if_ne (tgt := 182) hx hb dL_act_170 (by decide) (fun c_170 => ?_) (fun c_170 => ?_)
    · refine lv_aload_n hx hb dL_act_182 rfl (lv_at hl 3 rfl) ?_
      refine lv_iload_n hx hb dL_act_183 rfl (lv_at hl 1 rfl) ?_
      refine lv_iload_n hx hb dL_act_184 rfl (lv_at hl 2 rfl) ?_
      refine lv_bipush (v := 6) hx hb dL_act_185 (by decide) ?_
      refine lv_ishr hx hb dL_act_187 ?_
      refine lv_gen (fun y187 => ?_)
      refine lv_iconst (v := 4) hx hb dL_act_188 (by decide) ?_
      refine lv_irem hx hb dL_act_189 (by decide) ?_
      refine core_m (A1 := gA X) (grV (Bh := (SBH X cm o σ)) (n := 2) (As := [.int ((nI n9) - (nI n9) / 4 * 4), .int (y187 - y187 / 4 * 4)]) (rest := []) h0 hF (m_X9_stay h0 (cm := cm) (o := o) (σ := σ) hC hO hP ((nI n9) - (nI n9) / 4 * 4) (y187 - y187 / 4 * 4)) wm_L_44 wo_X9_stay ws_X9__X9_stay wz_X9 wc_X9_stay ⟨by decide, by decide, by decide +kernel⟩ rfl ⟨Nat.le_of_ble_eq_true rfl, Nat.le_of_ble_eq_true rfl⟩ (ci := 8) (SBH.rec hB) rfl hB hS hAo ⟨Nat.le_of_ble_eq_true rfl, Nat.le_of_ble_eq_true rfl⟩ hl.1 rfl (Nat.le_of_ble_eq_true rfl) dL_act_190) hS (fun q h8 => h8) (fun v' H locs hq' hz1 hk1 hS => ?_)
      obtain ⟨rfl, hB⟩ := hq'
      obtain ⟨τ, hτ, hB⟩ : ∃ τ, τ = sbChg σ (oCmd σ.1 σ.2.2.2.2.1 10 ((nI n9) - (nI n9) / 4 * 4) (y187 - y187 / 4 * 4) 0) ∧ SBH X cm o τ H := ⟨_, rfl, hB⟩
      refine W.widen (k := 61) (n := 7930) (by omega) (by omega) ?_
      exact mm_iret hF hS dL_act_193 (⟨_, τ, rfl, hB, act_f hI hN hτ⟩)
    · refine lv_aload_n hx hb dL_act_173 rfl (lv_at hl 3 rfl) ?_
      refine lv_iload hx hb dL_act_174 (lv_at hl 0 rfl) ?_
      refine core_m (A1 := gA X) (grV (Bh := (SBH X cm o σ)) (n := 1) (As := [.int (y13 - y13 / 7 * 7)]) (rest := []) h0 hF (m_X9_drop h0 (cm := cm) (o := o) (σ := σ) hC hO hP (y13 - y13 / 7 * 7)) wm_L_41 wo_X9_drop ws_X9__X9_drop wz_X9 wc_X9_drop ⟨by decide, by decide, by decide +kernel⟩ rfl ⟨Nat.le_of_ble_eq_true rfl, Nat.le_of_ble_eq_true rfl⟩ (ci := 8) (SBH.rec hB) rfl hB hS hAo ⟨Nat.le_of_ble_eq_true rfl, Nat.le_of_ble_eq_true rfl⟩ hl.1 rfl (Nat.le_of_ble_eq_true rfl) dL_act_176) hS (fun q h8 => h8) (fun v' H locs hq' hz1 hk1 hS => ?_)
      obtain ⟨rfl, hB⟩ := hq'
      obtain ⟨τ, hτ, hB⟩ : ∃ τ, τ = sbChg σ (oCmd σ.1 σ.2.2.2.2.1 5 (y13 - y13 / 7 * 7) 0 0) ∧ SBH X cm o τ H := ⟨_, rfl, hB⟩
      refine lv_goto (tgt := 193) hx hb dL_act_179 (by decide) ?_
      refine W.widen (k := 61) (n := 7930) (by omega) (by omega) ?_
      exact mm_iret hF hS dL_act_193 (⟨_, τ, rfl, hB, act_f hI hN hτ⟩)
  | 7, _ =>
    refine lv_tableIn (x := nI 7) (off := 171) (tgt := 194) hx hb dL_act_23 (by decide) (by decide) (by decide) (by decide) ?_
    refine lv_aload_n hx hb dL_act_194 rfl (lv_at hl 3 rfl) ?_
    refine lv_iload_n hx hb dL_act_195 rfl (lv_at hl 1 rfl) ?_
    refine lv_iload hx hb dL_act_196 (lv_at hl 0 rfl) ?_
    refine lv_iload_n hx hb dL_act_198 rfl (lv_at hl 2 rfl) ?_
    refine lv_bipush (v := 6) hx hb dL_act_199 (by decide) ?_
    refine lv_ishr hx hb dL_act_201 ?_
    refine lv_gen (fun y201 => ?_)
    refine lv_bipush (v := 11) hx hb dL_act_202 (by decide) ?_
    refine lv_irem hx hb dL_act_204 (by decide) ?_
    refine core_m (A1 := gA X) (grV (Bh := (SBH X cm o σ)) (n := 3) (As := [.int ((nI n9) - (nI n9) / 4 * 4), .int (y13 - y13 / 7 * 7), .int (y201 - y201 / 11 * 11)]) (rest := []) h0 hF (m_X9_wish h0 (cm := cm) (o := o) (σ := σ) hC hO hP ((nI n9) - (nI n9) / 4 * 4) (y13 - y13 / 7 * 7) (y201 - y201 / 11 * 11)) wm_L_47 wo_X9_wish ws_X9__X9_wish wz_X9 wc_X9_wish ⟨by decide, by decide, by decide +kernel⟩ rfl ⟨Nat.le_of_ble_eq_true rfl, Nat.le_of_ble_eq_true rfl⟩ (ci := 8) (SBH.rec hB) rfl hB hS hAo ⟨Nat.le_of_ble_eq_true rfl, Nat.le_of_ble_eq_true rfl⟩ hl.1 rfl (Nat.le_of_ble_eq_true rfl) dL_act_205) hS (fun q h8 => h8) (fun v' H locs hq' hz1 hk1 hS => ?_)
    obtain ⟨rfl, hB⟩ := hq'
    obtain ⟨τ, hτ, hB⟩ : ∃ τ, τ = sbChg σ (oCmd σ.1 σ.2.2.2.2.1 6 ((nI n9) - (nI n9) / 4 * 4) (y13 - y13 / 7 * 7) (y201 - y201 / 11 * 11)) ∧ SBH X cm o τ H := ⟨_, rfl, hB⟩
    refine W.widen (k := 61) (n := 7930) (by omega) (by omega) ?_
    exact mm_iret hF hS dL_act_208 (⟨_, τ, rfl, hB, act_f hI hN hτ⟩)
  | 8, _ =>
    refine lv_tableIn (x := nI 8) (off := 171) (tgt := 194) hx hb dL_act_23 (by decide) (by decide) (by decide) (by decide) ?_
    refine lv_aload_n hx hb dL_act_194 rfl (lv_at hl 3 rfl) ?_
    refine lv_iload_n hx hb dL_act_195 rfl (lv_at hl 1 rfl) ?_
    refine lv_iload hx hb dL_act_196 (lv_at hl 0 rfl) ?_
    refine lv_iload_n hx hb dL_act_198 rfl (lv_at hl 2 rfl) ?_
    refine lv_bipush (v := 6) hx hb dL_act_199 (by decide) ?_
    refine lv_ishr hx hb dL_act_201 ?_
    refine lv_gen (fun y201 => ?_)
    refine lv_bipush (v := 11) hx hb dL_act_202 (by decide) ?_
    refine lv_irem hx hb dL_act_204 (by decide) ?_
    refine core_m (A1 := gA X) (grV (Bh := (SBH X cm o σ)) (n := 3) (As := [.int ((nI n9) - (nI n9) / 4 * 4), .int (y13 - y13 / 7 * 7), .int (y201 - y201 / 11 * 11)]) (rest := []) h0 hF (m_X9_wish h0 (cm := cm) (o := o) (σ := σ) hC hO hP ((nI n9) - (nI n9) / 4 * 4) (y13 - y13 / 7 * 7) (y201 - y201 / 11 * 11)) wm_L_47 wo_X9_wish ws_X9__X9_wish wz_X9 wc_X9_wish ⟨by decide, by decide, by decide +kernel⟩ rfl ⟨Nat.le_of_ble_eq_true rfl, Nat.le_of_ble_eq_true rfl⟩ (ci := 8) (SBH.rec hB) rfl hB hS hAo ⟨Nat.le_of_ble_eq_true rfl, Nat.le_of_ble_eq_true rfl⟩ hl.1 rfl (Nat.le_of_ble_eq_true rfl) dL_act_205) hS (fun q h8 => h8) (fun v' H locs hq' hz1 hk1 hS => ?_)
    obtain ⟨rfl, hB⟩ := hq'
    obtain ⟨τ, hτ, hB⟩ : ∃ τ, τ = sbChg σ (oCmd σ.1 σ.2.2.2.2.1 6 ((nI n9) - (nI n9) / 4 * 4) (y13 - y13 / 7 * 7) (y201 - y201 / 11 * 11)) ∧ SBH X cm o τ H := ⟨_, rfl, hB⟩
    refine W.widen (k := 61) (n := 7930) (by omega) (by omega) ?_
    exact mm_iret hF hS dL_act_208 (⟨_, τ, rfl, hB, act_f hI hN hτ⟩)
  | 9, _ =>
    refine lv_tableIn (x := nI 9) (off := 171) (tgt := 194) hx hb dL_act_23 (by decide) (by decide) (by decide) (by decide) ?_
    refine lv_aload_n hx hb dL_act_194 rfl (lv_at hl 3 rfl) ?_
    refine lv_iload_n hx hb dL_act_195 rfl (lv_at hl 1 rfl) ?_
    refine lv_iload hx hb dL_act_196 (lv_at hl 0 rfl) ?_
    refine lv_iload_n hx hb dL_act_198 rfl (lv_at hl 2 rfl) ?_
    refine lv_bipush (v := 6) hx hb dL_act_199 (by decide) ?_
    refine lv_ishr hx hb dL_act_201 ?_
    refine lv_gen (fun y201 => ?_)
    refine lv_bipush (v := 11) hx hb dL_act_202 (by decide) ?_
    refine lv_irem hx hb dL_act_204 (by decide) ?_
    refine core_m (A1 := gA X) (grV (Bh := (SBH X cm o σ)) (n := 3) (As := [.int ((nI n9) - (nI n9) / 4 * 4), .int (y13 - y13 / 7 * 7), .int (y201 - y201 / 11 * 11)]) (rest := []) h0 hF (m_X9_wish h0 (cm := cm) (o := o) (σ := σ) hC hO hP ((nI n9) - (nI n9) / 4 * 4) (y13 - y13 / 7 * 7) (y201 - y201 / 11 * 11)) wm_L_47 wo_X9_wish ws_X9__X9_wish wz_X9 wc_X9_wish ⟨by decide, by decide, by decide +kernel⟩ rfl ⟨Nat.le_of_ble_eq_true rfl, Nat.le_of_ble_eq_true rfl⟩ (ci := 8) (SBH.rec hB) rfl hB hS hAo ⟨Nat.le_of_ble_eq_true rfl, Nat.le_of_ble_eq_true rfl⟩ hl.1 rfl (Nat.le_of_ble_eq_true rfl) dL_act_205) hS (fun q h8 => h8) (fun v' H locs hq' hz1 hk1 hS => ?_)
    obtain ⟨rfl, hB⟩ := hq'
    obtain ⟨τ, hτ, hB⟩ : ∃ τ, τ = sbChg σ (oCmd σ.1 σ.2.2.2.2.1 6 ((nI n9) - (nI n9) / 4 * 4) (y13 - y13 / 7 * 7) (y201 - y201 / 11 * 11)) ∧ SBH X cm o τ H := ⟨_, rfl, hB⟩
    refine W.widen (k := 61) (n := 7930) (by omega) (by omega) ?_
    exact mm_iret hF hS dL_act_208 (⟨_, τ, rfl, hB, act_f hI hN hτ⟩)
  | 10, _ =>
    refine lv_tableIn (x := nI 10) (off := 186) (tgt := 209) hx hb dL_act_23 (by decide) (by decide) (by decide) (by decide) ?_
    refine lv_aload_n hx hb dL_act_209 rfl (lv_at hl 3 rfl) ?_
    refine lv_iload_n hx hb dL_act_210 rfl (lv_at hl 1 rfl) ?_
    refine lv_iload_n hx hb dL_act_211 rfl (lv_at hl 2 rfl) ?_
    refine lv_iconst (v := 5) hx hb dL_act_212 (by decide) ?_
    refine lv_ishr hx hb dL_act_213 ?_
    refine lv_gen (fun y213 => ?_)
    refine lv_bipush (v := 12) hx hb dL_act_214 (by decide) ?_
    refine lv_irem hx hb dL_act_216 (by decide) ?_
    refine core_m (A1 := gA X) (grV (Bh := (SBH X cm o σ)) (n := 2) (As := [.int ((nI n9) - (nI n9) / 4 * 4), .int (y213 - y213 / 12 * 12)]) (rest := []) h0 hF (m_X9_pay h0 (cm := cm) (o := o) (σ := σ) hC hO hP ((nI n9) - (nI n9) / 4 * 4) (y213 - y213 / 12 * 12)) wm_L_51 wo_X9_pay ws_X9__X9_pay wz_X9 wc_X9_pay ⟨by decide, by decide, by decide +kernel⟩ rfl ⟨Nat.le_of_ble_eq_true rfl, Nat.le_of_ble_eq_true rfl⟩ (ci := 8) (SBH.rec hB) rfl hB hS hAo ⟨Nat.le_of_ble_eq_true rfl, Nat.le_of_ble_eq_true rfl⟩ hl.1 rfl (Nat.le_of_ble_eq_true rfl) dL_act_217) hS (fun q h8 => h8) (fun v' H locs hq' hz1 hk1 hS => ?_)
    obtain ⟨rfl, hB⟩ := hq'
    obtain ⟨τ, hτ, hB⟩ : ∃ τ, τ = sbChg σ (oCmd σ.1 σ.2.2.2.2.1 7 ((nI n9) - (nI n9) / 4 * 4) (y213 - y213 / 12 * 12) 0) ∧ SBH X cm o τ H := ⟨_, rfl, hB⟩
    refine W.widen (k := 61) (n := 7930) (by omega) (by omega) ?_
    exact mm_iret hF hS dL_act_220 (⟨_, τ, rfl, hB, act_f hI hN hτ⟩)
  | 11, _ =>
    refine lv_tableIn (x := nI 11) (off := 198) (tgt := 221) hx hb dL_act_23 (by decide) (by decide) (by decide) (by decide) ?_
    refine lv_aload_n hx hb dL_act_221 rfl (lv_at hl 3 rfl) ?_
    refine lv_iload_n hx hb dL_act_222 rfl (lv_at hl 1 rfl) ?_
    refine core_m (A1 := gA X) (grV (Bh := (SBH X cm o σ)) (n := 1) (As := [.int ((nI n9) - (nI n9) / 4 * 4)]) (rest := []) h0 hF (m_X9_pound h0 (cm := cm) (o := o) (σ := σ) hC hO hP ((nI n9) - (nI n9) / 4 * 4)) wm_L_54 wo_X9_pound ws_X9__X9_pound wz_X9 wc_X9_pound ⟨by decide, by decide, by decide +kernel⟩ rfl ⟨Nat.le_of_ble_eq_true rfl, Nat.le_of_ble_eq_true rfl⟩ (ci := 8) (SBH.rec hB) rfl hB hS hAo ⟨Nat.le_of_ble_eq_true rfl, Nat.le_of_ble_eq_true rfl⟩ hl.1 rfl (Nat.le_of_ble_eq_true rfl) dL_act_223) hS (fun q h8 => h8) (fun v' H locs hq' hz1 hk1 hS => ?_)
    obtain ⟨rfl, hB⟩ := hq'
    obtain ⟨τ, hτ, hB⟩ : ∃ τ, τ = sbChg σ (oCmd σ.1 σ.2.2.2.2.1 8 ((nI n9) - (nI n9) / 4 * 4) 0 0) ∧ SBH X cm o τ H := ⟨_, rfl, hB⟩
    refine W.widen (k := 61) (n := 7930) (by omega) (by omega) ?_
    exact mm_iret hF hS dL_act_226 (⟨_, τ, rfl, hB, act_f hI hN hτ⟩)
  | 12, _ =>
    refine lv_tableIn (x := nI 12) (off := 204) (tgt := 227) hx hb dL_act_23 (by decide) (by decide) (by decide) (by decide) ?_
    refine lv_iload_n hx hb dL_act_227 rfl (lv_at hl 2 rfl) ?_
    refine lv_bipush (v := 32) hx hb dL_act_228 (by decide) ?_
    refine lv_iand hx hb dL_act_230 ?_
    refine lv_gen (fun y230 => ?_)
    refine lv_if_ne (tgt := 247) hx hb dL_act_231 (by decide) (fun c_231 => ?_) (fun c_231 => ?_)
    · refine lv_aload_n hx hb dL_act_247 rfl (lv_at hl 3 rfl) ?_
      refine core_m (A1 := gA X) (grV (Bh := (SBH X cm o σ)) (n := 0) (As := []) (rest := []) h0 hF (m_X9_dawn h0 (cm := cm) (o := o) (σ := σ) hC hO hP ) wm_L_60 wo_X9_dawn ws_X9__X9_dawn wz_X9 wc_X9_dawn ⟨by decide, by decide, by decide +kernel⟩ rfl ⟨Nat.le_of_ble_eq_true rfl, Nat.le_of_ble_eq_true rfl⟩ (ci := 8) (SBH.rec hB) rfl hB hS hAo ⟨Nat.le_of_ble_eq_true rfl, Nat.le_of_ble_eq_true rfl⟩ hl.1 rfl (Nat.le_of_ble_eq_true rfl) dL_act_248) hS (fun q h8 => h8) (fun v' H locs hq' hz1 hk1 hS => ?_)
      obtain ⟨rfl, hB⟩ := hq'
      obtain ⟨τ, hτ, hB⟩ : ∃ τ, τ = sbChg σ (oCmd σ.1 σ.2.2.2.2.1 11 0 0 0) ∧ SBH X cm o τ H := ⟨_, rfl, hB⟩
      refine W.widen (k := 61) (n := 7930) (by omega) (by omega) ?_
      exact mm_iret hF hS dL_act_251 (⟨_, τ, rfl, hB, act_f hI hN hτ⟩)
    · refine lv_aload_n hx hb dL_act_234 rfl (lv_at hl 3 rfl) ?_
      refine lv_iload_n hx hb dL_act_235 rfl (lv_at hl 2 rfl) ?_
      refine lv_iconst (v := 3) hx hb dL_act_236 (by decide) ?_
      refine lv_ishr hx hb dL_act_237 ?_
      refine lv_gen (fun y237 => ?_)
      refine lv_bipush (v := 6) hx hb dL_act_238 (by decide) ?_
      refine lv_irem hx hb dL_act_240 (by decide) ?_
      refine core_m (A1 := gA X) (grV (Bh := (SBH X cm o σ)) (n := 1) (As := [.int (y237 - y237 / 6 * 6)]) (rest := []) h0 hF (m_X9_redeem h0 (cm := cm) (o := o) (σ := σ) hC hO hP (y237 - y237 / 6 * 6)) wm_L_57 wo_X9_redeem ws_X9__X9_redeem wz_X9 wc_X9_redeem ⟨by decide, by decide, by decide +kernel⟩ rfl ⟨Nat.le_of_ble_eq_true rfl, Nat.le_of_ble_eq_true rfl⟩ (ci := 8) (SBH.rec hB) rfl hB hS hAo ⟨Nat.le_of_ble_eq_true rfl, Nat.le_of_ble_eq_true rfl⟩ hl.1 rfl (Nat.le_of_ble_eq_true rfl) dL_act_241) hS (fun q h8 => h8) (fun v' H locs hq' hz1 hk1 hS => ?_)
      obtain ⟨rfl, hB⟩ := hq'
      obtain ⟨τ, hτ, hB⟩ : ∃ τ, τ = sbChg σ (oCmd σ.1 σ.2.2.2.2.1 9 (y237 - y237 / 6 * 6) 0 0) ∧ SBH X cm o τ H := ⟨_, rfl, hB⟩
      refine lv_goto (tgt := 251) hx hb dL_act_244 (by decide) ?_
      refine W.widen (k := 61) (n := 7930) (by omega) (by omega) ?_
      exact mm_iret hF hS dL_act_251 (⟨_, τ, rfl, hB, act_f hI hN hτ⟩)
  | 13, _ =>
    refine lv_tableIn (x := nI 13) (off := 229) (tgt := 252) hx hb dL_act_23 (by decide) (by decide) (by decide) (by decide) ?_
    refine lv_aload_n hx hb dL_act_252 rfl (lv_at hl 3 rfl) ?_
    refine va_gets hx hb (hG.Z hAo hTT.1) hS hown (hG.hts h0 _ _ wf_L_63) (fun _ h9 => h9) dL_act_253 ?_
    refine lv_iload_n hx hb dL_act_256 rfl (lv_at hl 2 rfl) ?_
    refine va_gets hx hb (hG.Z hAo hTT.1) hS hown (hG.hts h0 _ _ wf_L_63) (fun _ h9 => h9) dL_act_257 ?_
    refine va_tlen hx hb (hG.T hAo hTT.2.1) hS (v := 30) rfl dL_act_260 ?_
    refine lv_irem hx hb dL_act_261 (by decide) ?_
    refine lv_topE (y := nI (n9 % 30)) (pk_rem (by omega) (by decide) (by decide)) ?_
    refine vb_tq hx hb (hG.T hAo hTT.2.1) hS (i := nI (n9 % 30)) (vp_in_nI (show n9 % 30 < 30 from Nat.mod_lt n9 (by decide)) (by decide)) (v := .ref (tq (n9 % 30))) (by rw [nI_clamp (by have := (show n9 % 30 < 30 from Nat.mod_lt n9 (by decide)); omega)]) dL_act_262 ?_
    refine core_m (A1 := gA X) (grS (Bh := (SBH X cm o σ)) (n := 2) (As := [.ref o, .ref (tq (n9 % 30))]) (rest := []) h0 hF (m_L_write h0 (cm := cm) (o := o) (σ := σ) (t := textL.getD (n9 % 30) []) (hTT.2.2 (n9 % 30) (show n9 % 30 < 30 from Nat.mod_lt n9 (by decide))) (text_ok (n9 % 30) (show n9 % 30 < 30 from Nat.mod_lt n9 (by decide))) h3) wm_L_69 wt_L_write wz_L wc_L_write ⟨by decide, by decide, by decide +kernel⟩ rfl ⟨Nat.le_of_ble_eq_true rfl, Nat.le_of_ble_eq_true rfl⟩ hB hS hAo ⟨Nat.le_of_ble_eq_true rfl, Nat.le_of_ble_eq_true rfl⟩ hl.1 rfl (Nat.le_of_ble_eq_true rfl) dL_act_263) hS (fun q h8 => h8) (fun v' H locs hq' hz1 hk1 hS => ?_)
    obtain ⟨rfl, co9, hco9, hB⟩ := hq'
    refine core_m (A1 := gA X) (grV (Bh := (SBH X cm o (sbIn σ (textL.getD (n9 % 30) []).length co9))) (n := 0) (As := []) (rest := []) h0 hF (m_X9_read h0 (cm := cm) (o := o) (σ := (sbIn σ (textL.getD (n9 % 30) []).length co9)) hC hW hO (Okp_in hP _ _) Ok_oCmd (prs_all (n9 % 30) (show n9 % 30 < 30 from Nat.mod_lt n9 (by decide))) (text_ok (n9 % 30) (show n9 % 30 < 30 from Nat.mod_lt n9 (by decide))).1 rfl hco9) wm_L_73 wo_X9_read ws_X9__X9_read wz_X9 wc_X9_read ⟨by decide, by decide, by decide +kernel⟩ rfl ⟨Nat.le_of_ble_eq_true rfl, Nat.le_of_ble_eq_true rfl⟩ (ci := 8) (SBH.rec hB) rfl hB hS hAo ⟨Nat.le_of_ble_eq_true rfl, Nat.le_of_ble_eq_true rfl⟩ hl.1 rfl (Nat.le_of_ble_eq_true rfl) dL_act_266) hS (fun q h8 => h8) (fun v' H locs hq' hz1 hk1 hS => ?_)
    obtain ⟨rfl, hB⟩ := hq'
    obtain ⟨τ, hτ, hB⟩ : ∃ τ, τ = sbIn (cinR (sbIn σ (textL.getD (n9 % 30) []).length co9) (PL.getD (n9 % 30) [])).2 0 ((cinR (sbIn σ (textL.getD (n9 % 30) []).length co9) (PL.getD (n9 % 30) [])).2.2.2.2.2.2) ∧ SBH X cm o τ H := ⟨_, rfl, hB⟩
    obtain ⟨a9, ha9⟩ : ∃ a, a = (cinR (sbIn σ (textL.getD (n9 % 30) []).length co9) (PL.getD (n9 % 30) [])).1 := ⟨_, rfl⟩
    have hrf := read_f hI (PL_len (n9 % 30) (show n9 % 30 < 30 from Nat.mod_lt n9 (by decide))) (by omega) (textL.getD (n9 % 30) []).length co9 τ a9 ha9 hτ
    refine lv_topE (y := a9) ha9.symm ?_
    refine W.widen (k := 61) (n := 7930) (by omega) (by omega) ?_
    exact mm_iret hF hS dL_act_269 (⟨_, τ, rfl, hB, hrf.1, fun h => by rcases hrf.2.2.2 with h8 | h8; exact h8.2.1; exact absurd (by rcases h with h | h | h <;> rw [h] <;> decide) h8.1⟩)
  | 14, _ =>
    refine lv_tableIn (x := nI 14) (off := 229) (tgt := 252) hx hb dL_act_23 (by decide) (by decide) (by decide) (by decide) ?_
    refine lv_aload_n hx hb dL_act_252 rfl (lv_at hl 3 rfl) ?_
    refine va_gets hx hb (hG.Z hAo hTT.1) hS hown (hG.hts h0 _ _ wf_L_63) (fun _ h9 => h9) dL_act_253 ?_
    refine lv_iload_n hx hb dL_act_256 rfl (lv_at hl 2 rfl) ?_
    refine va_gets hx hb (hG.Z hAo hTT.1) hS hown (hG.hts h0 _ _ wf_L_63) (fun _ h9 => h9) dL_act_257 ?_
    refine va_tlen hx hb (hG.T hAo hTT.2.1) hS (v := 30) rfl dL_act_260 ?_
    refine lv_irem hx hb dL_act_261 (by decide) ?_
    refine lv_topE (y := nI (n9 % 30)) (pk_rem (by omega) (by decide) (by decide)) ?_
    refine vb_tq hx hb (hG.T hAo hTT.2.1) hS (i := nI (n9 % 30)) (vp_in_nI (show n9 % 30 < 30 from Nat.mod_lt n9 (by decide)) (by decide)) (v := .ref (tq (n9 % 30))) (by rw [nI_clamp (by have := (show n9 % 30 < 30 from Nat.mod_lt n9 (by decide)); omega)]) dL_act_262 ?_
    refine core_m (A1 := gA X) (grS (Bh := (SBH X cm o σ)) (n := 2) (As := [.ref o, .ref (tq (n9 % 30))]) (rest := []) h0 hF (m_L_write h0 (cm := cm) (o := o) (σ := σ) (t := textL.getD (n9 % 30) []) (hTT.2.2 (n9 % 30) (show n9 % 30 < 30 from Nat.mod_lt n9 (by decide))) (text_ok (n9 % 30) (show n9 % 30 < 30 from Nat.mod_lt n9 (by decide))) h3) wm_L_69 wt_L_write wz_L wc_L_write ⟨by decide, by decide, by decide +kernel⟩ rfl ⟨Nat.le_of_ble_eq_true rfl, Nat.le_of_ble_eq_true rfl⟩ hB hS hAo ⟨Nat.le_of_ble_eq_true rfl, Nat.le_of_ble_eq_true rfl⟩ hl.1 rfl (Nat.le_of_ble_eq_true rfl) dL_act_263) hS (fun q h8 => h8) (fun v' H locs hq' hz1 hk1 hS => ?_)
    obtain ⟨rfl, co9, hco9, hB⟩ := hq'
    refine core_m (A1 := gA X) (grV (Bh := (SBH X cm o (sbIn σ (textL.getD (n9 % 30) []).length co9))) (n := 0) (As := []) (rest := []) h0 hF (m_X9_read h0 (cm := cm) (o := o) (σ := (sbIn σ (textL.getD (n9 % 30) []).length co9)) hC hW hO (Okp_in hP _ _) Ok_oCmd (prs_all (n9 % 30) (show n9 % 30 < 30 from Nat.mod_lt n9 (by decide))) (text_ok (n9 % 30) (show n9 % 30 < 30 from Nat.mod_lt n9 (by decide))).1 rfl hco9) wm_L_73 wo_X9_read ws_X9__X9_read wz_X9 wc_X9_read ⟨by decide, by decide, by decide +kernel⟩ rfl ⟨Nat.le_of_ble_eq_true rfl, Nat.le_of_ble_eq_true rfl⟩ (ci := 8) (SBH.rec hB) rfl hB hS hAo ⟨Nat.le_of_ble_eq_true rfl, Nat.le_of_ble_eq_true rfl⟩ hl.1 rfl (Nat.le_of_ble_eq_true rfl) dL_act_266) hS (fun q h8 => h8) (fun v' H locs hq' hz1 hk1 hS => ?_)
    obtain ⟨rfl, hB⟩ := hq'
    obtain ⟨τ, hτ, hB⟩ : ∃ τ, τ = sbIn (cinR (sbIn σ (textL.getD (n9 % 30) []).length co9) (PL.getD (n9 % 30) [])).2 0 ((cinR (sbIn σ (textL.getD (n9 % 30) []).length co9) (PL.getD (n9 % 30) [])).2.2.2.2.2.2) ∧ SBH X cm o τ H := ⟨_, rfl, hB⟩
    obtain ⟨a9, ha9⟩ : ∃ a, a = (cinR (sbIn σ (textL.getD (n9 % 30) []).length co9) (PL.getD (n9 % 30) [])).1 := ⟨_, rfl⟩
    have hrf := read_f hI (PL_len (n9 % 30) (show n9 % 30 < 30 from Nat.mod_lt n9 (by decide))) (by omega) (textL.getD (n9 % 30) []).length co9 τ a9 ha9 hτ
    refine lv_topE (y := a9) ha9.symm ?_
    refine W.widen (k := 61) (n := 7930) (by omega) (by omega) ?_
    exact mm_iret hF hS dL_act_269 (⟨_, τ, rfl, hB, hrf.1, fun h => by rcases hrf.2.2.2 with h8 | h8; exact h8.2.1; exact absurd (by rcases h with h | h | h <;> rw [h] <;> decide) h8.1⟩)
  | 15, _ =>
    refine lv_tableOut (x := nI 15) (tgt := 270) hx hb dL_act_23 (by decide) (by decide) ?_
    refine lv_iload_n hx hb dL_act_270 rfl (lv_at hl 2 rfl) ?_
    refine lv_iconst (v := 3) hx hb dL_act_271 (by decide) ?_
    refine lv_iand hx hb dL_act_272 ?_
    refine lv_gen (fun y272 => ?_)
    refine lv_if_ne (tgt := 283) hx hb dL_act_273 (by decide) (fun c_273 => ?_) (fun c_273 => ?_)
    · refine lv_iload_n hx hb dL_act_283 rfl (lv_at hl 2 rfl) ?_
      refine lv_iconst (v := 3) hx hb dL_act_284 (by decide) ?_
      refine lv_iand hx hb dL_act_285 ?_
      refine lv_gen (fun y285 => ?_)
      refine lv_iconst (v := 1) hx hb dL_act_286 (by decide) ?_
      refine lv_icmp_ne (tgt := 297) hx hb dL_act_287 (by decide) (fun c_287 => ?_) (fun c_287 => ?_)
      · rcases Nat.eq_zero_or_pos (σ.2.2.2.1 0) with hcq | hcq
        · refine lv_aload_n hx hb dL_act_297 rfl (lv_at hl 3 rfl) ?_
          refine core_p (v := .int (-4)) (grV (n := 0) (As := []) (rest := []) h0 hF (m_X9_undo_0 h0 (cm := cm) (o := o) (σ := σ) hcq) wm_L_82 wo_X9_undo ws_X9__X9_undo wz_X9 wc_X9_undo ⟨by decide, by decide, by decide +kernel⟩ rfl ⟨Nat.le_of_ble_eq_true rfl, Nat.le_of_ble_eq_true rfl⟩ (ci := 8) (SBH.rec hB) rfl hB hS hAo ⟨Nat.le_of_ble_eq_true rfl, Nat.le_of_ble_eq_true rfl⟩ hl.1 rfl (Nat.le_of_ble_eq_true rfl) dL_act_298) ?_
          refine W.widen (k := 61) (n := 7930) (by omega) (by omega) ?_
          exact mm_iret hF hS dL_act_301 (⟨_, σ, rfl, hB, hI.mono (by omega) hN, fun _ => rfl⟩)
        · refine lv_aload_n hx hb dL_act_297 rfl (lv_at hl 3 rfl) ?_
          refine core_m (A1 := gA X) (grV (Bh := (SBH X cm o σ)) (n := 0) (As := []) (rest := []) h0 hF (m_X9_undo h0 (cm := cm) (o := o) (σ := σ) hP hcq) wm_L_82 wo_X9_undo ws_X9__X9_undo wz_X9 wc_X9_undo ⟨by decide, by decide, by decide +kernel⟩ rfl ⟨Nat.le_of_ble_eq_true rfl, Nat.le_of_ble_eq_true rfl⟩ (ci := 8) (SBH.rec hB) rfl hB hS hAo ⟨Nat.le_of_ble_eq_true rfl, Nat.le_of_ble_eq_true rfl⟩ hl.1 rfl (Nat.le_of_ble_eq_true rfl) dL_act_298) hS (fun q h8 => h8) (fun v' H locs hq' hz1 hk1 hS => ?_)
          obtain ⟨rfl, hB⟩ := hq'
          obtain ⟨τ, hτ, hB⟩ : ∃ τ, τ = sbBack σ ∧ SBH X cm o τ H := ⟨_, rfl, hB⟩
          have hna : (nI (σ.2.2.2.1 0 - 1) = -1 ∨ nI (σ.2.2.2.1 0 - 1) = -2 ∨ nI (σ.2.2.2.1 0 - 1) = -3 → τ.1 = σ.1) := fun h => by rcases h with h | h | h <;> exact absurd (show (nI (σ.2.2.2.1 0 - 1) : Int32) < 0 from by rw [h]; decide) (nI_pos (by have := hP.1; omega))
          have hgi : GI (N + 4) τ := by rw [hτ]; exact hI.back.1.mono (by omega) hN
          refine W.widen (k := 61) (n := 7930) (by omega) (by omega) ?_
          exact mm_iret hF hS dL_act_301 (⟨_, τ, rfl, hB, hgi, hna⟩)
      · rcases hI.2.2.2.2.2.2 with hcq | hcq
        · refine lv_aload_n hx hb dL_act_290 rfl (lv_at hl 3 rfl) ?_
          refine core_p (v := .int (-4)) (grV (n := 0) (As := []) (rest := []) h0 hF (m_X9_restore_0 h0 (cm := cm) (o := o) (σ := σ) hcq) wm_L_79 wo_X9_restore ws_X9__X9_restore wz_X9 wc_X9_restore ⟨by decide, by decide, by decide +kernel⟩ rfl ⟨Nat.le_of_ble_eq_true rfl, Nat.le_of_ble_eq_true rfl⟩ (ci := 8) (SBH.rec hB) rfl hB hS hAo ⟨Nat.le_of_ble_eq_true rfl, Nat.le_of_ble_eq_true rfl⟩ hl.1 rfl (Nat.le_of_ble_eq_true rfl) dL_act_291) ?_
          refine lv_goto (tgt := 301) hx hb dL_act_294 (by decide) ?_
          refine W.widen (k := 61) (n := 7930) (by omega) (by omega) ?_
          exact mm_iret hF hS dL_act_301 (⟨_, σ, rfl, hB, hI.mono (by omega) hN, fun _ => rfl⟩)
        · refine lv_aload_n hx hb dL_act_290 rfl (lv_at hl 3 rfl) ?_
          refine core_m (A1 := gA X) (grV (Bh := (SBH X cm o σ)) (n := 0) (As := []) (rest := []) h0 hF (m_X9_restore h0 (cm := cm) (o := o) (σ := σ) hP hcq) wm_L_79 wo_X9_restore ws_X9__X9_restore wz_X9 wc_X9_restore ⟨by decide, by decide, by decide +kernel⟩ rfl ⟨Nat.le_of_ble_eq_true rfl, Nat.le_of_ble_eq_true rfl⟩ (ci := 8) (SBH.rec hB) rfl hB hS hAo ⟨Nat.le_of_ble_eq_true rfl, Nat.le_of_ble_eq_true rfl⟩ hl.1 rfl (Nat.le_of_ble_eq_true rfl) dL_act_291) hS (fun q h8 => h8) (fun v' H locs hq' hz1 hk1 hS => ?_)
          obtain ⟨rfl, hB⟩ := hq'
          obtain ⟨τ, hτ, hB⟩ : ∃ τ, τ = sbRest σ ∧ SBH X cm o τ H := ⟨_, rfl, hB⟩
          have hs2 := hI.2.2.1.1.1
          have hna : (nI (σ.2.1.2 0) = -1 ∨ nI (σ.2.1.2 0) = -2 ∨ nI (σ.2.1.2 0) = -3 → τ.1 = σ.1) := fun h => by rcases h with h | h | h <;> exact absurd (show (nI (σ.2.1.2 0) : Int32) < 0 from by rw [h]; decide) (nI_pos (by omega))
          have hgi : GI (N + 4) τ := by rw [hτ]; exact hI.rest.mono (by omega) hN
          refine lv_goto (tgt := 301) hx hb dL_act_294 (by decide) ?_
          refine W.widen (k := 61) (n := 7930) (by omega) (by omega) ?_
          exact mm_iret hF hS dL_act_301 (⟨_, τ, rfl, hB, hgi, hna⟩)
    · refine lv_aload_n hx hb dL_act_276 rfl (lv_at hl 3 rfl) ?_
      refine core_m (A1 := gA X) (grV (Bh := (SBH X cm o σ)) (n := 0) (As := []) (rest := []) h0 hF (m_X9_save h0 (cm := cm) (o := o) (σ := σ)) wm_L_76 wo_X9_save ws_X9__X9_save wz_X9 wc_X9_save ⟨by decide, by decide, by decide +kernel⟩ rfl ⟨Nat.le_of_ble_eq_true rfl, Nat.le_of_ble_eq_true rfl⟩ (ci := 8) (SBH.rec hB) rfl hB hS hAo ⟨Nat.le_of_ble_eq_true rfl, Nat.le_of_ble_eq_true rfl⟩ hl.1 rfl (Nat.le_of_ble_eq_true rfl) dL_act_277) hS (fun q h8 => h8) (fun v' H locs hq' hz1 hk1 hS => ?_)
      obtain ⟨rfl, hB⟩ := hq'
      obtain ⟨τ, hτ, hB⟩ : ∃ τ, τ = sbSave σ ∧ SBH X cm o τ H := ⟨_, rfl, hB⟩
      have hna : (nI (σ.1.2 0) = -1 ∨ nI (σ.1.2 0) = -2 ∨ nI (σ.1.2 0) = -3 → τ.1 = σ.1) := fun h => by rcases h with h | h | h <;> exact absurd (show (nI (σ.1.2 0) : Int32) < 0 from by rw [h]; decide) (nI_pos (by omega))
      have hgi : GI (N + 4) τ := by rw [hτ]; exact hI.save.mono (by omega) hN
      refine lv_goto (tgt := 301) hx hb dL_act_280 (by decide) ?_
      refine W.widen (k := 61) (n := 7930) (by omega) (by omega) ?_
      exact mm_iret hF hS dL_act_301 (⟨_, τ, rfl, hB, hgi, hna⟩)
  | c + 16, h9 => exact absurd h9 (by omega)
