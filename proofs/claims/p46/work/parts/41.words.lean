/-- how many commands a text has: the answer, where it ends or fails, and the numbers -/
def ccR (t : List Nat) : Nat → Nat → Nat → Int32 → (Nat → Int32) → Int32 × Int32 × (Nat → Int32)
  | 0, _, _, e, u => (-2, e, u)
  | k + 1, m, p, _, u => match (fcR t p formL 0 (nI p) u).1 with
    | none => (-2, (fcR t p formL 0 (nI p) u).2.1, (fcR t p formL 0 (nI p) u).2.2)
    | some x => if t.length ≤ x.2 then (nI m, nI x.2, (fcR t p formL 0 (nI p) u).2.2) else if tx t x.2 = 59 then ccR t k (m + 1) (x.2 + 1) (nI x.2) (fcR t p formL 0 (nI p) u).2.2 else (-2, nI x.2, (fcR t p formL 0 (nI p) u).2.2)
theorem cc_none {t : List Nat} {m p : Nat} {e : Int32} {u : Nat → Int32} {R : Int32 × Int32 × (Nat → Int32)} (hm : m < 61) (h : ccR t (61 - m) m p e u = R) (hF : (fcR t p formL 0 (nI p) u).1 = none) : R = (-2, (fcR t p formL 0 (nI p) u).2.1, (fcR t p formL 0 (nI p) u).2.2) := by
  rw [show 61 - m = (60 - m) + 1 by omega, ccR, hF] at h
  exact h.symm
theorem cc_end {t : List Nat} {m p : Nat} {e : Int32} {u : Nat → Int32} {R : Int32 × Int32 × (Nat → Int32)} {x : Nat × Nat} (hm : m < 61) (h : ccR t (61 - m) m p e u = R) (hF : (fcR t p formL 0 (nI p) u).1 = some x) (hx : t.length ≤ x.2) : R = (nI m, nI x.2, (fcR t p formL 0 (nI p) u).2.2) := by
  rw [show 61 - m = (60 - m) + 1 by omega, ccR, hF] at h
  simp only [] at h
  rw [if_pos hx] at h
  exact h.symm
theorem cc_bad {t : List Nat} {m p : Nat} {e : Int32} {u : Nat → Int32} {R : Int32 × Int32 × (Nat → Int32)} {x : Nat × Nat} (hm : m < 61) (h : ccR t (61 - m) m p e u = R) (hF : (fcR t p formL 0 (nI p) u).1 = some x) (hx : ¬ t.length ≤ x.2) (hc : ¬ tx t x.2 = 59) : R = (-2, nI x.2, (fcR t p formL 0 (nI p) u).2.2) := by
  rw [show 61 - m = (60 - m) + 1 by omega, ccR, hF] at h
  simp only [] at h
  rw [if_neg hx, if_neg hc] at h
  exact h.symm
theorem cc_go {t : List Nat} {m p : Nat} {e : Int32} {u : Nat → Int32} {R : Int32 × Int32 × (Nat → Int32)} {x : Nat × Nat} (hm : m < 61) (h : ccR t (61 - m) m p e u = R) (hF : (fcR t p formL 0 (nI p) u).1 = some x) (hx : ¬ t.length ≤ x.2) (hc : tx t x.2 = 59) : ccR t (61 - (m + 1)) (m + 1) (x.2 + 1) (nI x.2) (fcR t p formL 0 (nI p) u).2.2 = R := by
  rw [show 61 - m = (61 - (m + 1)) + 1 by omega, ccR, hF] at h
  simp only [] at h
  rw [if_neg hx, if_pos hc] at h
  exact h
theorem fcC_none {cm : Nat → Nat} {c0 : Nat} {F : Option (Nat × Nat) × Int32 × (Nat → Int32)} (h : F.1 = none) : fcC cm c0 F = c0 := by unfold fcC; rw [h]
theorem fcC_some {cm : Nat → Nat} {c0 : Nat} {F : Option (Nat × Nat) × Int32 × (Nat → Int32)} {x : Nat × Nat} (h : F.1 = some x) : fcC cm c0 F = cm x.1 := by unfold fcC; rw [h]
theorem isSome_f {α : Type} {o : Option α} (h : o.isSome = false) : o = none := by cases o with | none => rfl | some _ => cases h
theorem isSome_t {α : Type} {o : Option α} (h : o.isSome = true) : ∃ x, o = some x := by cases o with | none => cases h | some x => exact ⟨x, rfl⟩

set_option maxHeartbeats 4000000 in
set_option maxRecDepth 100000 in
theorem m_X8_countCommands {X : Cx} {l : Launch} (h0 : Init X) {cm qf : Nat → Nat} {tc : Nat} (hW : StW X cm qf tc) {ow : Nat → Nat} {g : Nat → Nat} {cw : Nat} (hcw : cw < 12) {e0 : Int32} {nu : Nat → Int32} {t : List Nat} (ht60 : t.length ≤ 60) (hz : ∀ q, ow q = 23 → X.z ≤ q) : MM X l yX8_countCommands cX8_countCommands 4 (some .int) 6 138 0 0 [.ref (g 2), .ref (g 3)] (fun H => Tw X ow 23 (woW X g (cm cw) e0 nu) H ∧ bfH X ow 24 (g 3) t.length (fun j => t.getD j 0) H) (fun v H => v = some (.int (ccR t 60 1 0 e0 nu).1) ∧ (∃ c, c < 12 ∧ Tw X ow 23 (woW X g (cm c) (ccR t 60 1 0 e0 nu).2.1 (ccR t 60 1 0 e0 nu).2.2) H) ∧ bfH X ow 24 (g 3) t.length (fun j => t.getD j 0) H) (fun q => ow q = 23) := by
  refine Met.mk (Bh := (fun H => Tw X ow 23 (woW X g (cm cw) e0 nu) H ∧ bfH X ow 24 (g 3) t.length (fun j => t.getD j 0) H)) (by decide) (Nat.le_of_ble_eq_true rfl) ?_
  intro p e s m below meth c ls hF hB hl
  obtain ⟨hwo, lv, lcap, lml, lbs, hit, hnc, h16, h130, hfit, hco, hmx⟩ := hB
  have hl : lv_has ls 4 [(0, .ref (g 2)), (1, .ref (g 3))] := hl
  obtain ⟨hx, hb, hml, hr, hlk, hown, hG⟩ := id hF
  have hK := hG.K h0
  have hS : va_S (fun q => ow q = 23) s.heap s.heap [] := va_S.rf
  have hAo : ∀ q, q < X.z → ¬ (fun q => ow q = 23) q := fun q h9 (h8 : ow q = 23) => absurd (hz q h8) (by omega)
  refine lv_iconst (v := 0) hx hb dX8_countCommands_0 (by decide) ?_
  refine lv_istore_n (lv' := [(2, .int 0), (0, .ref (g 2)), (1, .ref (g 3))]) hx hb dX8_countCommands_1 rfl hl (by decide) rfl (fun ls hl => ?_)
  refine lv_iconst (v := 1) hx hb dX8_countCommands_2 (by decide) ?_
  refine lv_istore_n (lv' := [(3, .int 1), (2, .int 0), (0, .ref (g 2)), (1, .ref (g 3))]) hx hb dX8_countCommands_3 rfl hl (by decide) rfl (fun ls hl => ?_)
  have key_4 : ∀ (nf kc : Nat), kc + nf = 61 → ∀ (p0 c0 : Nat) (e1 : Int32) (u : Nat → Int32), ccR t (61 - kc) kc p0 e1 u = (ccR t 60 1 0 e0 nu) ∧ p0 ≤ t.length ∧ c0 < 12 → ∀ (H : Heap) (locs : List Loc), Tw X ow 23 (woW X g (cm c0) e1 u) H → Tw X ow 24 (bfW X (g 3) lv lml t.length lcap lbs) H → va_S (fun q => ow q = 23) s.heap H locs → ∀ (ls : Array Slot), lv_has ls 4 [(0, .ref (g 2)), (1, .ref (g 3)), (2, .int (nI p0)), (3, .int (nI kc))] → W p l e ({ frames := 6, cells := 0, slots := 0, locals := 138 } : Room) s m ([.ref (g 2), .ref (g 3)] : List Value).toArray below meth c H locs 0 0 (MQ below (qM (fun v H => v = some (.int (ccR t 60 1 0 e0 nu).1) ∧ (∃ c, c < 12 ∧ Tw X ow 23 (woW X g (cm c) (ccR t 60 1 0 e0 nu).2.1 (ccR t 60 1 0 e0 nu).2.2) H) ∧ bfH X ow 24 (g 3) t.length (fun j => t.getD j 0) H) (fun q => ow q = 23)) ([.ref (g 2), .ref (g 3)] : List Value).toArray s 0 0 (fun q => ow q = 23)) (F0 m 4 ls []) := by
    intro nf
    induction nf with
    | zero =>
      intro kc hkc p0 c0 e1 u hx_kc H locs hwo hit hS ls hl
      have hkc_e : kc = 61 := by omega
      refine lv_iload_n hx hb dX8_countCommands_4 rfl (lv_at hl 3 rfl) ?_
      refine lv_bipush (v := 60) hx hb dX8_countCommands_5 (by decide) ?_
      refine lv_icmp_gt (tgt := 64) hx hb dX8_countCommands_7 (by decide) (fun c_7 => ?_) (fun c_7 => absurd (show (60 : Int32) < nI kc from nI_lt (a := 60) (b := kc) (by omega) (by omega)) c_7)
      have n_7 := Int32.not_le.mpr c_7
      refine lv_bipush (v := (-2)) hx hb dX8_countCommands_64 (by decide) ?_
      exact mm_iret hF hS dX8_countCommands_66 (by rw [show (ccR t 60 1 0 e0 nu) = (-2, e1, u) from by rw [← hx_kc.1, hkc_e]; rfl]; exact ⟨rfl, ⟨_, hx_kc.2.2, hwo⟩, ⟨lv, lcap, lml, lbs, hit, hnc, h16, h130, hfit, hco, hmx⟩⟩)
    | succ nf ih_4 =>
      intro kc hkc p0 c0 e1 u hx_kc H locs hwo hit hS ls hl
      have hkc_l : kc < 61 := by omega
      refine lv_iload_n hx hb dX8_countCommands_4 rfl (lv_at hl 3 rfl) ?_
      refine lv_bipush (v := 60) hx hb dX8_countCommands_5 (by decide) ?_
      refine lv_icmp_gt (tgt := 64) hx hb dX8_countCommands_7 (by decide) (fun c_7 => absurd c_7 (show ¬ (60 : Int32) < nI kc from nI_nlt (a := 60) (b := kc) (by omega) (by omega))) (fun c_7 => ?_)
      have n_7 := Int32.not_lt.mp c_7
      refine lv_aload_n hx hb dX8_countCommands_10 rfl (lv_at hl 0 rfl) ?_
      refine lv_aload_n hx hb dX8_countCommands_11 rfl (lv_at hl 1 rfl) ?_
      refine lv_iload_n hx hb dX8_countCommands_12 rfl (lv_at hl 2 rfl) ?_
      refine core_m (A1 := fun q => ow q = 23) (grV (Bh := (fun H => Tw X ow 23 (woW X g (cm c0) e1 u) H ∧ bfH X ow 24 (g 3) t.length (fun j => t.getD j 0) H)) (n := 2) (As := [.ref (g 3), .int (nI p0)]) (rest := []) h0 hF (m_X8_findCommand h0 (cm := cm) (qf := qf) (tc := tc) hW (ow := ow) (g := g) (cmd := (cm c0)) (p1 := p0) (e0 := e1) (nu := u) (t := t) ht60 (by omega) hz) wm_X8_24 wo_X8_findCommand ws_X8__X8_findCommand wz_X8 wc_X8_findCommand ⟨by decide, by decide, by decide +kernel⟩ rfl ⟨Nat.le_of_ble_eq_true rfl, Nat.le_of_ble_eq_true rfl⟩ (ci := 7) ⟨_, hwo.1 0 _ rfl⟩ rfl ⟨hwo, ⟨lv, lcap, lml, lbs, hit, hnc, h16, h130, hfit, hco, hmx⟩⟩ hS hAo ⟨Nat.le_of_ble_eq_true rfl, Nat.le_of_ble_eq_true rfl⟩ hl.1 rfl (Nat.le_of_ble_eq_true rfl) dX8_countCommands_13) hS (fun q (h8 : ow q = 23) => (show ow q = 23 from h8)) (fun v' H locs hq' hz1 hk1 hS => ?_)
      obtain ⟨rfl, hwo, -⟩ := hq'
      have hit := hit.keep hk1 (fun q h9 (h8 : ow q = 23) => by omega)
      refine lv_if_ne (tgt := 22) hx hb dX8_countCommands_16 (by decide) (fun c_16 => ?_) (fun c_16 => ?_)
      · have n_16 := bI_n0.mp c_16
        obtain ⟨x, hFf⟩ := isSome_t n_16
        have hle := fc_le (by omega) _ _ _ _ _ hFf
        have hx12 : x.1 < 12 := by have := hle.2.1; have h12 : formL.length = 12 := rfl; omega
        have hx2 := hle.1
        rw [fcC_some hFf, hle.2.2] at hwo
        refine lv_aload_n hx hb dX8_countCommands_22 rfl (lv_at hl 0 rfl) ?_
        refine g_get (ci := 7) (v := .int (nI x.2)) h0 hF inX8 hwo.1 0 rfl rfl 1 (by decide) wf_X8_28 rfl rfl dX8_countCommands_23 ?_
        refine lv_aload_n hx hb dX8_countCommands_26 rfl (lv_at hl 1 rfl) ?_
        refine core_p (v := .int (nI t.length)) (grV (n := 0) (As := []) (rest := [.int (nI x.2)]) h0 hF (m_J4_length_8abf5 h0 (ow := ow) (t := 24) (a := g 3) (v := lv) (ml := lml) (n := t.length) (cap := lcap) (bs := lbs) ) wm_X8_32 wo_J4_length_8abf5 ws_J4__J4_length_8abf5 wz_J4 wc_J4_length_8abf5 ⟨by decide, by decide, by decide +kernel⟩ rfl ⟨Nat.le_of_ble_eq_true rfl, Nat.le_of_ble_eq_true rfl⟩ (ci := 0) ⟨_, hit.1 0 _ rfl⟩ rfl hit hS hAo ⟨Nat.le_of_ble_eq_true rfl, Nat.le_of_ble_eq_true rfl⟩ hl.1 rfl (Nat.le_of_ble_eq_true rfl) dX8_countCommands_27) ?_
        refine lv_icmp_lt (tgt := 35) hx hb dX8_countCommands_30 (by decide) (fun c_30 => ?_) (fun c_30 => ?_)
        · have n_30 := Int32.not_le.mpr c_30
          have hx3 : ¬ t.length ≤ x.2 := Nat.not_le.mpr ((nI_ltI (by omega) (by omega)).mp c_30)
          refine lv_aload_n hx hb dX8_countCommands_35 rfl (lv_at hl 1 rfl) ?_
          refine lv_aload_n hx hb dX8_countCommands_36 rfl (lv_at hl 0 rfl) ?_
          refine g_get (ci := 7) (v := .int (nI x.2)) h0 hF inX8 hwo.1 0 rfl rfl 1 (by decide) wf_X8_28 rfl rfl dX8_countCommands_37 ?_
          refine core_p (v := .int (nI (t.getD x.2 0))) (grV (n := 1) (As := [.int (nI x.2)]) (rest := []) h0 hF (m_J4_charAt_5068e h0 (ow := ow) (t := 24) (a := g 3) (v := lv) (ml := lml) (n := t.length) (cap := lcap) (bs := lbs) (co := fun j => t.getD j 0) (i := x.2) (by omega) hnc h130 (hco _ (by omega))) wm_X8_38 wo_J4_charAt_5068e ws_J4__J4_charAt_5068e wz_J4 wc_J4_charAt_5068e ⟨by decide, by decide, by decide +kernel⟩ rfl ⟨Nat.le_of_ble_eq_true rfl, Nat.le_of_ble_eq_true rfl⟩ (ci := 0) ⟨_, hit.1 0 _ rfl⟩ rfl hit hS hAo ⟨Nat.le_of_ble_eq_true rfl, Nat.le_of_ble_eq_true rfl⟩ hl.1 rfl (Nat.le_of_ble_eq_true rfl) dX8_countCommands_40) ?_
          refine lv_topE (y := tx t x.2) (rfl) ?_
          refine lv_bipush (v := 59) hx hb dX8_countCommands_43 (by decide) ?_
          refine lv_icmp_eq (tgt := 51) hx hb dX8_countCommands_45 (by decide) (fun c_45 => ?_) (fun c_45 => ?_)
          · refine lv_aload_n hx hb dX8_countCommands_51 rfl (lv_at hl 0 rfl) ?_
            refine g_get (ci := 7) (v := .int (nI x.2)) h0 hF inX8 hwo.1 0 rfl rfl 1 (by decide) wf_X8_28 rfl rfl dX8_countCommands_52 ?_
            refine lv_iconst (v := 1) hx hb dX8_countCommands_55 (by decide) ?_
            refine lv_iadd hx hb dX8_countCommands_56 ?_
            refine lv_topE (y := nI (x.2 + 1)) (nI_1 _) ?_
            refine lv_istore_n (lv' := [(2, .int (nI (x.2 + 1))), (0, .ref (g 2)), (1, .ref (g 3)), (3, .int (nI kc))]) hx hb dX8_countCommands_57 rfl hl (by decide) rfl (fun ls hl => ?_)
            refine lv_iinc (v := nI (kc + 1)) (lv' := [(3, .int (nI (kc + 1))), (2, .int (nI (x.2 + 1))), (0, .ref (g 2)), (1, .ref (g 3))]) hx hb dX8_countCommands_58 hl (k := 3) rfl (nI_1 kc) (by decide) rfl (fun ls hl => ?_)
            refine lv_goto (tgt := 4) hx hb dX8_countCommands_61 (by decide) ?_
            refine ih_4 (kc + 1) (by omega) (x.2 + 1) x.1 (nI x.2) ((fcR t p0 formL 0 (nI p0) u).2.2) (⟨cc_go hkc_l hx_kc.1 hFf hx3 c_45, by omega, hx12⟩) _ _ hwo hit hS ls (lv_eqv (lv_sub (l' := [(0, .ref (g 2)), (1, .ref (g 3)), (2, .int (nI (x.2 + 1))), (3, .int (nI (kc + 1)))]) hl [2, 3, 1, 0] rfl) ?_)
            rfl
          · refine lv_bipush (v := (-2)) hx hb dX8_countCommands_48 (by decide) ?_
            exact mm_iret hF hS dX8_countCommands_50 (by rw [cc_bad hkc_l hx_kc.1 hFf hx3 c_45]; exact ⟨rfl, ⟨_, hx12, hwo⟩, ⟨lv, lcap, lml, lbs, hit, hnc, h16, h130, hfit, hco, hmx⟩⟩)
        · have n_30 := Int32.not_lt.mp c_30
          have hx3 : t.length ≤ x.2 := Nat.le_of_not_lt (fun h => c_30 (nI_lt h (by omega)))
          refine lv_iload_n hx hb dX8_countCommands_33 rfl (lv_at hl 3 rfl) ?_
          exact mm_iret hF hS dX8_countCommands_34 (by rw [cc_end hkc_l hx_kc.1 hFf hx3]; exact ⟨rfl, ⟨_, hx12, hwo⟩, ⟨lv, lcap, lml, lbs, hit, hnc, h16, h130, hfit, hco, hmx⟩⟩)
      · have n_16 := bI_0.mp c_16
        have hFf := isSome_f n_16
        rw [fcC_none hFf] at hwo
        refine lv_bipush (v := (-2)) hx hb dX8_countCommands_19 (by decide) ?_
        exact mm_iret hF hS dX8_countCommands_21 (by rw [cc_none hkc_l hx_kc.1 hFf]; exact ⟨rfl, ⟨_, hx_kc.2.2, hwo⟩, ⟨lv, lcap, lml, lbs, hit, hnc, h16, h130, hfit, hco, hmx⟩⟩)
  exact key_4 (60) 1 (by omega) 0 cw e0 nu (⟨rfl, by omega, hcw⟩) _ _ hwo hit hS ls (lv_sub hl [2, 3, 1, 0] rfl)
