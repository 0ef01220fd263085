set_option maxHeartbeats 4000000 in
set_option maxRecDepth 100000 in
theorem m_X8_follows {X : Cx} {l : Launch} (h0 : Init X) {ow : Nat → Nat} {g : Nat → Nat} {cmd q p1 : Nat} {e0 : Int32} {nu : Nat → Int32} {t r : List Nat} (hT : StrAt X q r) (hrl : r.length < 1000) (hr128 : ∀ i, r.getD i 0 < 128) (ht60 : t.length ≤ 60) (hp1 : p1 ≤ t.length) (hz : ∀ q, ow q = 23 → X.z ≤ q) : MM X l yX8_follows cX8_follows 8 (some .boolean) 4 88 0 0 [.ref (g 2), .ref q, .ref (g 3), .int (nI p1)] (fun H => Tw X ow 23 (woW X g cmd e0 nu) H ∧ bfH X ow 24 (g 3) t.length (fun j => t.getD j 0) H) (fun v H => v = some (.int (bI (fw t r p1 0 nu).1)) ∧ Tw X ow 23 (woW X g cmd (fwE e0 (fw t r p1 0 nu)) (fw t r p1 0 nu).2.2) H ∧ bfH X ow 24 (g 3) t.length (fun j => t.getD j 0) H) (fun q => ow q = 23) := by
  refine Met.mk (Bh := (fun H => Tw X ow 23 (woW X g cmd e0 nu) H ∧ bfH X ow 24 (g 3) t.length (fun j => t.getD j 0) H)) (by decide) (Nat.le_of_ble_eq_true rfl) ?_
  intro p e s m below meth c ls hF hB hl
  obtain ⟨hwo, lv, lcap, lml, lbs, hit, hnc, h16, h130, hfit, hco, hmx⟩ := hB
  have hl : lv_has ls 8 [(0, .ref (g 2)), (1, .ref q), (2, .ref (g 3)), (3, .int (nI p1))] := hl
  obtain ⟨hx, hb, hml, hr, hlk, hown, hG⟩ := id hF
  have hK := hG.K h0
  have hS : va_S (fun q => ow q = 23) s.heap s.heap [] := va_S.rf
  have hAo : ∀ q, q < X.z → ¬ (fun q => ow q = 23) q := fun q h9 (h8 : ow q = 23) => absurd (hz q h8) (by omega)
  refine lv_iload_n hx hb dX8_follows_0 rfl (lv_at hl 3 rfl) ?_
  refine lv_istore (lv' := [(4, .int (nI p1)), (0, .ref (g 2)), (1, .ref q), (2, .ref (g 3)), (3, .int (nI p1))]) hx hb dX8_follows_1 hl (by decide) rfl (fun ls hl => ?_)
  refine lv_iconst (v := 0) hx hb dX8_follows_3 (by decide) ?_
  refine lv_istore (lv' := [(5, .int 0), (4, .int (nI p1)), (0, .ref (g 2)), (1, .ref q), (2, .ref (g 3)), (3, .int (nI p1))]) hx hb dX8_follows_4 hl (by decide) rfl (fun ls hl => ?_)
  refine lv_iconst (v := 0) hx hb dX8_follows_6 (by decide) ?_
  refine lv_istore (lv' := [(6, .int 0), (5, .int 0), (4, .int (nI p1)), (0, .ref (g 2)), (1, .ref q), (2, .ref (g 3)), (3, .int (nI p1))]) hx hb dX8_follows_7 hl (by decide) rfl (fun ls hl => ?_)
  have key_9 : ∀ (nf i : Nat), i + nf = r.length → ∀ (p0 k0 : Nat) (u : Nat → Int32), fw t (r.drop i) p0 k0 u = (fw t r p1 0 nu) ∧ p0 ≤ t.length ∧ k0 ≤ 3 → ∀ (H : Heap) (locs : List Loc), Tw X ow 23 (woW X g cmd e0 u) H → Tw X ow 24 (bfW X (g 3) lv lml t.length lcap lbs) H → va_S (fun q => ow q = 23) s.heap H locs → ∀ (ls : Array Slot), lv_has ls 8 [(0, .ref (g 2)), (1, .ref q), (2, .ref (g 3)), (3, .int (nI p1)), (4, .int (nI p0)), (5, .int (nI k0)), (6, .int (nI i))] → W p l e ({ frames := 4, cells := 0, slots := 0, locals := 88 } : Room) s m ([.ref (g 2), .ref q, .ref (g 3), .int (nI p1)] : List Value).toArray below meth c H locs 0 0 (MQ below (qM (fun v H => v = some (.int (bI (fw t r p1 0 nu).1)) ∧ Tw X ow 23 (woW X g cmd (fwE e0 (fw t r p1 0 nu)) (fw t r p1 0 nu).2.2) H ∧ bfH X ow 24 (g 3) t.length (fun j => t.getD j 0) H) (fun q => ow q = 23)) ([.ref (g 2), .ref q, .ref (g 3), .int (nI p1)] : List Value).toArray s 0 0 (fun q => ow q = 23)) (F0 m 9 ls []) := by
    intro nf
    induction nf with
    | zero =>
      intro i hi p0 k0 u hx_i H locs hwo hit hS ls hl
      have hi_e : i = r.length := by omega
      refine lv_iload hx hb dX8_follows_9 (lv_at hl 6 rfl) ?_
      refine lv_aload_n hx hb dX8_follows_11 rfl (lv_at hl 1 rfl) ?_
      refine core_p (v := .int (nI r.length)) (grV2 (n := 0) (As := []) (rest := [.int (nI i)]) h0 hF (m_J0_length_8abf5 h0 (q := q) (t := r) hT) wm_X8_54 wo_J0_length_8abf5 ws_J0__J0_length_8abf5 wz_J0 wc_J0_length_8abf5 ⟨by decide, by decide, by decide +kernel⟩ rfl ⟨Nat.le_of_ble_eq_true rfl, Nat.le_of_ble_eq_true rfl⟩ (recO (hG.O hAo hT.1) hS) trivial hS hAo ⟨Nat.le_of_ble_eq_true rfl, Nat.le_of_ble_eq_true rfl⟩ hl.1 rfl (Nat.le_of_ble_eq_true rfl) dX8_follows_12) ?_
      refine lv_icmp_ge (tgt := 186) hx hb dX8_follows_15 (by decide) (fun c_15 => ?_) (fun c_15 => absurd (nI_le (a := r.length) (b := i) (by omega) (by omega)) c_15)
      have n_15 := Int32.not_lt.mpr c_15
      refine lv_aload_n hx hb dX8_follows_186 rfl (lv_at hl 0 rfl) ?_
      refine lv_iload hx hb dX8_follows_187 (lv_at hl 4 rfl) ?_
      have htg := hwo.tag 0 rfl
      refine g_put (ci := 7) h0 hF inX8 tyX8 tyX8_ok nmX8 hwo hS (htg) 0 rfl rfl 1 (by decide) wf_X8_28 rfl rfl (tyX8_ok 1 (by decide)) rfl rfl (Nat.le_of_ble_eq_true rfl) dX8_follows_189 (fun H locs oq hwo' hS => ?_)
      have hit := hit.fr1 oq (by rw [htg]; omega)
      have hwo : Tw X ow 23 (woW X g cmd (nI p0) u) H := hwo'
      refine lv_iconst (v := 1) hx hb dX8_follows_192 (by decide) ?_
      exact mm_zret hF hS dX8_follows_193 rfl (by rw [fw_end hi_e hx_i.1]; exact ⟨rfl, hwo, ⟨lv, lcap, lml, lbs, hit, hnc, h16, h130, hfit, hco, hmx⟩⟩)
    | succ nf ih_9 =>
      intro i hi p0 k0 u hx_i H locs hwo hit hS ls hl
      have hi_l : i < r.length := by omega
      refine lv_iload hx hb dX8_follows_9 (lv_at hl 6 rfl) ?_
      refine lv_aload_n hx hb dX8_follows_11 rfl (lv_at hl 1 rfl) ?_
      refine core_p (v := .int (nI r.length)) (grV2 (n := 0) (As := []) (rest := [.int (nI i)]) h0 hF (m_J0_length_8abf5 h0 (q := q) (t := r) hT) wm_X8_54 wo_J0_length_8abf5 ws_J0__J0_length_8abf5 wz_J0 wc_J0_length_8abf5 ⟨by decide, by decide, by decide +kernel⟩ rfl ⟨Nat.le_of_ble_eq_true rfl, Nat.le_of_ble_eq_true rfl⟩ (recO (hG.O hAo hT.1) hS) trivial hS hAo ⟨Nat.le_of_ble_eq_true rfl, Nat.le_of_ble_eq_true rfl⟩ hl.1 rfl (Nat.le_of_ble_eq_true rfl) dX8_follows_12) ?_
      refine lv_icmp_ge (tgt := 186) hx hb dX8_follows_15 (by decide) (fun c_15 => absurd c_15 (nI_ge (a := i) (b := r.length) (by omega) (by omega))) (fun c_15 => ?_)
      have n_15 := Int32.not_le.mp c_15
      refine lv_aload_n hx hb dX8_follows_18 rfl (lv_at hl 1 rfl) ?_
      refine lv_iload hx hb dX8_follows_19 (lv_at hl 6 rfl) ?_
      refine core_p (v := .int (nI (r.getD i 0))) (grV2 (n := 1) (As := [.int (nI i)]) (rest := []) h0 hF (m_J0_charAt_5068e h0 (q := q) (t := r) (k := i) hT hi_l hrl (hr128 i)) wm_X8_57 wo_J0_charAt_5068e ws_J0__J0_charAt_5068e wz_J0 wc_J0_charAt_5068e ⟨by decide, by decide, by decide +kernel⟩ rfl ⟨Nat.le_of_ble_eq_true rfl, Nat.le_of_ble_eq_true rfl⟩ (recO (hG.O hAo hT.1) hS) trivial hS hAo ⟨Nat.le_of_ble_eq_true rfl, Nat.le_of_ble_eq_true rfl⟩ hl.1 rfl (Nat.le_of_ble_eq_true rfl) dX8_follows_21) ?_
      refine lv_topE (y := tx r i) (rfl) ?_
      refine lv_istore (lv' := [(7, .int (tx r i)), (0, .ref (g 2)), (1, .ref q), (2, .ref (g 3)), (3, .int (nI p1)), (4, .int (nI p0)), (5, .int (nI k0)), (6, .int (nI i))]) hx hb dX8_follows_24 hl (by decide) rfl (fun ls hl => ?_)
      refine lv_iload hx hb dX8_follows_26 (lv_at hl 5 rfl) ?_
      refine lv_aload_n hx hb dX8_follows_28 rfl (lv_at hl 3 rfl) ?_
      refine core_p (v := .int (nI t.length)) (grV (n := 0) (As := []) (rest := [.int (nI p0)]) h0 hF (m_J4_length_8abf5 h0 (ow := ow) (t := 24) (a := g 3) (v := lv) (ml := lml) (n := t.length) (cap := lcap) (bs := lbs) ) wm_X8_32 wo_J4_length_8abf5 ws_J4__J4_length_8abf5 wz_J4 wc_J4_length_8abf5 ⟨by decide, by decide, by decide +kernel⟩ rfl ⟨Nat.le_of_ble_eq_true rfl, Nat.le_of_ble_eq_true rfl⟩ (ci := 0) ⟨_, hit.1 0 _ rfl⟩ rfl hit hS hAo ⟨Nat.le_of_ble_eq_true rfl, Nat.le_of_ble_eq_true rfl⟩ hl.1 rfl (Nat.le_of_ble_eq_true rfl) dX8_follows_29) ?_
      refine lv_icmp_ge (tgt := 49) hx hb dX8_follows_32 (by decide) (fun c_32 => ?_) (fun c_32 => ?_)
      · have n_32 := Int32.not_lt.mpr c_32
        have hp_32 : ¬ p0 < t.length := Nat.not_lt.mpr ((nI_leI (by omega) (by omega)).mp c_32)
        refine lv_aload_n hx hb dX8_follows_49 rfl (lv_at hl 1 rfl) ?_
        refine lv_aload_n hx hb dX8_follows_50 rfl (lv_at hl 1 rfl) ?_
        refine g_get (ci := 7) (v := .int e0) h0 hF inX8 hwo.1 0 rfl rfl 1 (by decide) wf_X8_28 rfl rfl dX8_follows_51 ?_
        refine lv_iload hx hb dX8_follows_54 (lv_at hl 5 rfl) ?_
        refine va_mmax hx hb (by rw [hl.1]; exact hml) hown (hG.hts h0 _ _ wm_X8_62) (hG.hts h0 _ _ wt_J9_max_7cf53) (hG.hts h0 _ _ wz_J9) (hG.hts h0 _ _ wc_J9_max_7cf53) (Nat.le_of_ble_eq_true rfl) (Nat.le_of_ble_eq_true rfl) (Nat.zero_le _) (Nat.zero_le _) dX8_follows_56 ?_
        have htg := hwo.tag 0 rfl
        refine g_put (ci := 7) h0 hF inX8 tyX8 tyX8_ok nmX8 hwo hS (htg) 0 rfl rfl 1 (by decide) wf_X8_28 rfl rfl (tyX8_ok 1 (by decide)) rfl rfl (Nat.le_of_ble_eq_true rfl) dX8_follows_59 (fun H locs oq hwo' hS => ?_)
        have hit := hit.fr1 oq (by rw [htg]; omega)
        have hwo : Tw X ow 23 (woW X g cmd (if e0 < nI p0 then nI p0 else e0) u) H := hwo'
        refine lv_iconst (v := 0) hx hb dX8_follows_62 (by decide) ?_
        exact mm_zret hF hS dX8_follows_63 rfl (by rw [fw_none hi_l hx_i.1 (by simp [fwS, c_15, n_15, c_32, n_32, hp_32])]; exact ⟨rfl, hwo, ⟨lv, lcap, lml, lbs, hit, hnc, h16, h130, hfit, hco, hmx⟩⟩)
      · have n_32 := Int32.not_le.mp c_32
        have hp_32 : p0 < t.length := Nat.lt_of_not_le (fun h => c_32 ((nI_leI (by omega) (by omega)).mpr h))
        refine lv_aload_n hx hb dX8_follows_35 rfl (lv_at hl 3 rfl) ?_
        refine lv_iload hx hb dX8_follows_36 (lv_at hl 5 rfl) ?_
        refine core_p (v := .int (nI (t.getD p0 0))) (grV (n := 1) (As := [.int (nI p0)]) (rest := []) h0 hF (m_J4_charAt_5068e h0 (ow := ow) (t := 24) (a := g 3) (v := lv) (ml := lml) (n := t.length) (cap := lcap) (bs := lbs) (co := fun j => t.getD j 0) (i := p0) (by omega) hnc h130 (hco _ (by omega))) wm_X8_38 wo_J4_charAt_5068e ws_J4__J4_charAt_5068e wz_J4 wc_J4_charAt_5068e ⟨by decide, by decide, by decide +kernel⟩ rfl ⟨Nat.le_of_ble_eq_true rfl, Nat.le_of_ble_eq_true rfl⟩ (ci := 0) ⟨_, hit.1 0 _ rfl⟩ rfl hit hS hAo ⟨Nat.le_of_ble_eq_true rfl, Nat.le_of_ble_eq_true rfl⟩ hl.1 rfl (Nat.le_of_ble_eq_true rfl) dX8_follows_38) ?_
        refine lv_topE (y := tx t p0) (rfl) ?_
        refine lv_iload hx hb dX8_follows_41 (lv_at hl 0 rfl) ?_
        refine core_p (v := .int (bI (ftB (tx t p0) (tx r i)))) (grS (n := 2) (As := [.int (tx t p0), .int (tx r i)]) (rest := []) h0 hF (m_X8_fits h0 (tx t p0) (tx r i)) wm_X8_58 wt_X8_fits wz_X8 wc_X8_fits ⟨by decide, by decide, by decide +kernel⟩ rfl ⟨Nat.le_of_ble_eq_true rfl, Nat.le_of_ble_eq_true rfl⟩ trivial hS hAo ⟨Nat.le_of_ble_eq_true rfl, Nat.le_of_ble_eq_true rfl⟩ hl.1 rfl (Nat.le_of_ble_eq_true rfl) dX8_follows_43) ?_
        refine lv_if_ne (tgt := 64) hx hb dX8_follows_46 (by decide) (fun c_46 => ?_) (fun c_46 => ?_)
        · have n_46 := bI_n0.mp c_46
          refine lv_iload hx hb dX8_follows_64 (lv_at hl 0 rfl) ?_
          refine core_p (v := .int (bI (plB (tx r i)))) (grS (n := 1) (As := [.int (tx r i)]) (rest := []) h0 hF (m_X8_isPlace h0 (tx r i)) wm_X8_68 wt_X8_isPlace wz_X8 wc_X8_isPlace ⟨by decide, by decide, by decide +kernel⟩ rfl ⟨Nat.le_of_ble_eq_true rfl, Nat.le_of_ble_eq_true rfl⟩ trivial hS hAo ⟨Nat.le_of_ble_eq_true rfl, Nat.le_of_ble_eq_true rfl⟩ hl.1 rfl (Nat.le_of_ble_eq_true rfl) dX8_follows_66) ?_
          refine lv_if_eq (tgt := 177) hx hb dX8_follows_69 (by decide) (fun c_69 => ?_) (fun c_69 => ?_)
          · have n_69 := bI_0.mp c_69
            refine lv_iinc (v := nI (p0 + 1)) (lv' := [(4, .int (nI (p0 + 1))), (7, .int (tx r i)), (0, .ref (g 2)), (1, .ref q), (2, .ref (g 3)), (3, .int (nI p1)), (5, .int (nI k0)), (6, .int (nI i))]) hx hb dX8_follows_177 hl (k := 5) rfl (nI_1 p0) (by decide) rfl (fun ls hl => ?_)
            refine lv_iinc (v := nI (i + 1)) (lv' := [(6, .int (nI (i + 1))), (4, .int (nI (p0 + 1))), (7, .int (tx r i)), (0, .ref (g 2)), (1, .ref q), (2, .ref (g 3)), (3, .int (nI p1)), (5, .int (nI k0))]) hx hb dX8_follows_180 hl (k := 7) rfl (nI_1 i) (by decide) rfl (fun ls hl => ?_)
            refine lv_goto (tgt := 9) hx hb dX8_follows_183 (by decide) ?_
            refine ih_9 (i + 1) (by omega) (p0 + 1) k0 u (⟨fw_some hi_l hx_i.1 (by simp [fwS, c_15, n_15, c_32, n_32, hp_32, n_46, n_69]), by omega, by omega⟩) _ _ hwo hit hS ls (lv_eqv (lv_sub (l' := [(0, .ref (g 2)), (1, .ref q), (2, .ref (g 3)), (3, .int (nI p1)), (4, .int (nI (p0 + 1))), (5, .int (nI k0)), (6, .int (nI (i + 1)))]) hl [3, 4, 5, 6, 1, 7, 0] rfl) ?_)
            rfl
          · have n_69 := bI_n0.mp c_69
            refine lv_iload hx hb dX8_follows_72 (lv_at hl 6 rfl) ?_
            refine lv_aload_n hx hb dX8_follows_74 rfl (lv_at hl 1 rfl) ?_
            refine g_get (ci := 7) (v := .ref (g 6)) h0 hF inX8 hwo.1 0 rfl rfl 2 (by decide) wf_X8_20 rfl rfl dX8_follows_75 ?_
            refine va_alen hx hb hK hwo.1 1 0 rfl rfl (v := 3) rfl dX8_follows_78 ?_
            refine lv_icmp_ge (tgt := 177) hx hb dX8_follows_79 (by decide) (fun c_79 => ?_) (fun c_79 => ?_)
            · have n_79 := Int32.not_lt.mpr c_79
              have hk_79 : ¬ k0 < 3 := Nat.not_lt.mpr ((nI_leI (a := 3) (b := k0) (by omega) (by omega)).mp c_79)
              refine lv_iinc (v := nI (p0 + 1)) (lv' := [(4, .int (nI (p0 + 1))), (7, .int (tx r i)), (0, .ref (g 2)), (1, .ref q), (2, .ref (g 3)), (3, .int (nI p1)), (5, .int (nI k0)), (6, .int (nI i))]) hx hb dX8_follows_177 hl (k := 5) rfl (nI_1 p0) (by decide) rfl (fun ls hl => ?_)
              refine lv_iinc (v := nI (i + 1)) (lv' := [(6, .int (nI (i + 1))), (4, .int (nI (p0 + 1))), (7, .int (tx r i)), (0, .ref (g 2)), (1, .ref q), (2, .ref (g 3)), (3, .int (nI p1)), (5, .int (nI k0))]) hx hb dX8_follows_180 hl (k := 7) rfl (nI_1 i) (by decide) rfl (fun ls hl => ?_)
              refine lv_goto (tgt := 9) hx hb dX8_follows_183 (by decide) ?_
              refine ih_9 (i + 1) (by omega) (p0 + 1) k0 u (⟨fw_some hi_l hx_i.1 (by simp [fwS, c_15, n_15, c_32, n_32, hp_32, n_46, n_69, c_79, n_79, hk_79]), by omega, by omega⟩) _ _ hwo hit hS ls (lv_eqv (lv_sub (l' := [(0, .ref (g 2)), (1, .ref q), (2, .ref (g 3)), (3, .int (nI p1)), (4, .int (nI (p0 + 1))), (5, .int (nI k0)), (6, .int (nI (i + 1)))]) hl [3, 4, 5, 6, 1, 7, 0] rfl) ?_)
              rfl
            · have n_79 := Int32.not_le.mp c_79
              have hk_79 : k0 < 3 := Nat.lt_of_not_le (fun h => c_79 ((nI_leI (a := 3) (b := k0) (by omega) (by omega)).mpr h))
              refine lv_aload_n hx hb dX8_follows_82 rfl (lv_at hl 1 rfl) ?_
              refine g_get (ci := 7) (v := .ref (g 6)) h0 hF inX8 hwo.1 0 rfl rfl 2 (by decide) wf_X8_20 rfl rfl dX8_follows_83 ?_
              refine lv_iload hx hb dX8_follows_86 (lv_at hl 6 rfl) ?_
              refine lv_aload_n hx hb dX8_follows_88 rfl (lv_at hl 3 rfl) ?_
              refine lv_iload hx hb dX8_follows_89 (lv_at hl 5 rfl) ?_
              refine core_p (v := .int (nI (t.getD p0 0))) (grV (n := 1) (As := [.int (nI p0)]) (rest := [.int (nI k0), .ref (g 6)]) h0 hF (m_J4_charAt_5068e h0 (ow := ow) (t := 24) (a := g 3) (v := lv) (ml := lml) (n := t.length) (cap := lcap) (bs := lbs) (co := fun j => t.getD j 0) (i := p0) (by omega) hnc h130 (hco _ (by omega))) wm_X8_38 wo_J4_charAt_5068e ws_J4__J4_charAt_5068e wz_J4 wc_J4_charAt_5068e ⟨by decide, by decide, by decide +kernel⟩ rfl ⟨Nat.le_of_ble_eq_true rfl, Nat.le_of_ble_eq_true rfl⟩ (ci := 0) ⟨_, hit.1 0 _ rfl⟩ rfl hit hS hAo ⟨Nat.le_of_ble_eq_true rfl, Nat.le_of_ble_eq_true rfl⟩ hl.1 rfl (Nat.le_of_ble_eq_true rfl) dX8_follows_91) ?_
              refine lv_topE (y := tx t p0) (rfl) ?_
              refine lv_iload hx hb dX8_follows_94 (lv_at hl 0 rfl) ?_
              refine lv_bipush (v := 76) hx hb dX8_follows_96 (by decide) ?_
              refine lv_icmp_ne (tgt := 106) hx hb dX8_follows_98 (by decide) (fun c_98 => ?_) (fun c_98 => ?_)
              · refine lv_bipush (v := 48) hx hb dX8_follows_106 (by decide) ?_
                refine lv_isub hx hb dX8_follows_108 ?_
                have htg := hwo.tag 1 rfl
                refine g_iast hx hb hK hwo hS (htg) 1 0 rfl rfl k0 (rfl) (by omega) (by decide) dX8_follows_109 (fun H locs oq hwo' hS => ?_)
                have hit := hit.fr1 oq (by rw [htg]; omega)
                have hwo : Tw X ow 23 (woW X g cmd e0 (upd u k0 ((tx t p0) - 48))) H := hwo'
                refine lv_iload hx hb dX8_follows_110 (lv_at hl 0 rfl) ?_
                refine lv_bipush (v := 78) hx hb dX8_follows_112 (by decide) ?_
                refine lv_icmp_ne (tgt := 174) hx hb dX8_follows_114 (by decide) (fun c_114 => ?_) (fun c_114 => ?_)
                · refine lv_iinc (v := nI (k0 + 1)) (lv' := [(5, .int (nI (k0 + 1))), (7, .int (tx r i)), (0, .ref (g 2)), (1, .ref q), (2, .ref (g 3)), (3, .int (nI p1)), (4, .int (nI p0)), (6, .int (nI i))]) hx hb dX8_follows_174 hl (k := 6) rfl (nI_1 k0) (by decide) rfl (fun ls hl => ?_)
                  refine lv_iinc (v := nI (p0 + 1)) (lv' := [(4, .int (nI (p0 + 1))), (5, .int (nI (k0 + 1))), (7, .int (tx r i)), (0, .ref (g 2)), (1, .ref q), (2, .ref (g 3)), (3, .int (nI p1)), (6, .int (nI i))]) hx hb dX8_follows_177 hl (k := 6) rfl (nI_1 p0) (by decide) rfl (fun ls hl => ?_)
                  refine lv_iinc (v := nI (i + 1)) (lv' := [(6, .int (nI (i + 1))), (4, .int (nI (p0 + 1))), (5, .int (nI (k0 + 1))), (7, .int (tx r i)), (0, .ref (g 2)), (1, .ref q), (2, .ref (g 3)), (3, .int (nI p1))]) hx hb dX8_follows_180 hl (k := 7) rfl (nI_1 i) (by decide) rfl (fun ls hl => ?_)
                  refine lv_goto (tgt := 9) hx hb dX8_follows_183 (by decide) ?_
                  refine ih_9 (i + 1) (by omega) (p0 + 1) (k0 + 1) (upd u k0 ((tx t p0) - 48)) (⟨fw_some hi_l hx_i.1 (by simp [fwS, c_15, n_15, c_32, n_32, hp_32, n_46, n_69, c_79, n_79, hk_79, c_98, c_114]), by omega, by omega⟩) _ _ hwo hit hS ls (lv_eqv (lv_sub (l' := [(0, .ref (g 2)), (1, .ref q), (2, .ref (g 3)), (3, .int (nI p1)), (4, .int (nI (p0 + 1))), (5, .int (nI (k0 + 1))), (6, .int (nI (i + 1)))]) hl [4, 5, 6, 7, 1, 2, 0] rfl) ?_)
                  rfl
                · refine lv_iload hx hb dX8_follows_117 (lv_at hl 5 rfl) ?_
                  refine lv_iconst (v := 1) hx hb dX8_follows_119 (by decide) ?_
                  refine lv_iadd hx hb dX8_follows_120 ?_
                  refine lv_topE (y := nI (p0 + 1)) (nI_1 _) ?_
                  refine lv_aload_n hx hb dX8_follows_121 rfl (lv_at hl 3 rfl) ?_
                  refine core_p (v := .int (nI t.length)) (grV (n := 0) (As := []) (rest := [.int (nI (p0 + 1))]) h0 hF (m_J4_length_8abf5 h0 (ow := ow) (t := 24) (a := g 3) (v := lv) (ml := lml) (n := t.length) (cap := lcap) (bs := lbs) ) wm_X8_32 wo_J4_length_8abf5 ws_J4__J4_length_8abf5 wz_J4 wc_J4_length_8abf5 ⟨by decide, by decide, by decide +kernel⟩ rfl ⟨Nat.le_of_ble_eq_true rfl, Nat.le_of_ble_eq_true rfl⟩ (ci := 0) ⟨_, hit.1 0 _ rfl⟩ rfl hit hS hAo ⟨Nat.le_of_ble_eq_true rfl, Nat.le_of_ble_eq_true rfl⟩ hl.1 rfl (Nat.le_of_ble_eq_true rfl) dX8_follows_122) ?_
                  refine lv_icmp_ge (tgt := 174) hx hb dX8_follows_125 (by decide) (fun c_125 => ?_) (fun c_125 => ?_)
                  · have n_125 := Int32.not_lt.mpr c_125
                    have hp_125 : ¬ p0 + 1 < t.length := Nat.not_lt.mpr ((nI_leI (by omega) (by omega)).mp c_125)
                    refine lv_iinc (v := nI (k0 + 1)) (lv' := [(5, .int (nI (k0 + 1))), (7, .int (tx r i)), (0, .ref (g 2)), (1, .ref q), (2, .ref (g 3)), (3, .int (nI p1)), (4, .int (nI p0)), (6, .int (nI i))]) hx hb dX8_follows_174 hl (k := 6) rfl (nI_1 k0) (by decide) rfl (fun ls hl => ?_)
                    refine lv_iinc (v := nI (p0 + 1)) (lv' := [(4, .int (nI (p0 + 1))), (5, .int (nI (k0 + 1))), (7, .int (tx r i)), (0, .ref (g 2)), (1, .ref q), (2, .ref (g 3)), (3, .int (nI p1)), (6, .int (nI i))]) hx hb dX8_follows_177 hl (k := 6) rfl (nI_1 p0) (by decide) rfl (fun ls hl => ?_)
                    refine lv_iinc (v := nI (i + 1)) (lv' := [(6, .int (nI (i + 1))), (4, .int (nI (p0 + 1))), (5, .int (nI (k0 + 1))), (7, .int (tx r i)), (0, .ref (g 2)), (1, .ref q), (2, .ref (g 3)), (3, .int (nI p1))]) hx hb dX8_follows_180 hl (k := 7) rfl (nI_1 i) (by decide) rfl (fun ls hl => ?_)
                    refine lv_goto (tgt := 9) hx hb dX8_follows_183 (by decide) ?_
                    refine ih_9 (i + 1) (by omega) (p0 + 1) (k0 + 1) (upd u k0 ((tx t p0) - 48)) (⟨fw_some hi_l hx_i.1 (by simp [fwS, c_15, n_15, c_32, n_32, hp_32, n_46, n_69, c_79, n_79, hk_79, c_98, eq_true c_114, c_125, n_125, hp_125]), by omega, by omega⟩) _ _ hwo hit hS ls (lv_eqv (lv_sub (l' := [(0, .ref (g 2)), (1, .ref q), (2, .ref (g 3)), (3, .int (nI p1)), (4, .int (nI (p0 + 1))), (5, .int (nI (k0 + 1))), (6, .int (nI (i + 1)))]) hl [4, 5, 6, 7, 1, 2, 0] rfl) ?_)
                    rfl
                  · have n_125 := Int32.not_le.mp c_125
                    have hp_125 : p0 + 1 < t.length := Nat.lt_of_not_le (fun h => c_125 ((nI_leI (by omega) (by omega)).mpr h))
                    refine lv_aload_n hx hb dX8_follows_128 rfl (lv_at hl 3 rfl) ?_
                    refine lv_iload hx hb dX8_follows_129 (lv_at hl 5 rfl) ?_
                    refine lv_iconst (v := 1) hx hb dX8_follows_131 (by decide) ?_
                    refine lv_iadd hx hb dX8_follows_132 ?_
                    refine lv_topE (y := nI (p0 + 1)) (nI_1 _) ?_
                    refine core_p (v := .int (nI (t.getD (p0 + 1) 0))) (grV (n := 1) (As := [.int (nI (p0 + 1))]) (rest := []) h0 hF (m_J4_charAt_5068e h0 (ow := ow) (t := 24) (a := g 3) (v := lv) (ml := lml) (n := t.length) (cap := lcap) (bs := lbs) (co := fun j => t.getD j 0) (i := (p0 + 1)) (by omega) hnc h130 (hco _ (by omega))) wm_X8_38 wo_J4_charAt_5068e ws_J4__J4_charAt_5068e wz_J4 wc_J4_charAt_5068e ⟨by decide, by decide, by decide +kernel⟩ rfl ⟨Nat.le_of_ble_eq_true rfl, Nat.le_of_ble_eq_true rfl⟩ (ci := 0) ⟨_, hit.1 0 _ rfl⟩ rfl hit hS hAo ⟨Nat.le_of_ble_eq_true rfl, Nat.le_of_ble_eq_true rfl⟩ hl.1 rfl (Nat.le_of_ble_eq_true rfl) dX8_follows_133) ?_
                    refine lv_topE (y := tx t (p0 + 1)) (rfl) ?_
                    refine lv_bipush (v := 68) hx hb dX8_follows_136 (by decide) ?_
                    refine core_p (v := .int (bI (ftB (tx t (p0 + 1)) 68))) (grS (n := 2) (As := [.int (tx t (p0 + 1)), .int 68]) (rest := []) h0 hF (m_X8_fits h0 (tx t (p0 + 1)) 68) wm_X8_58 wt_X8_fits wz_X8 wc_X8_fits ⟨by decide, by decide, by decide +kernel⟩ rfl ⟨Nat.le_of_ble_eq_true rfl, Nat.le_of_ble_eq_true rfl⟩ trivial hS hAo ⟨Nat.le_of_ble_eq_true rfl, Nat.le_of_ble_eq_true rfl⟩ hl.1 rfl (Nat.le_of_ble_eq_true rfl) dX8_follows_138) ?_
                    refine lv_if_eq (tgt := 174) hx hb dX8_follows_141 (by decide) (fun c_141 => ?_) (fun c_141 => ?_)
                    · have n_141 := bI_0.mp c_141
                      refine lv_iinc (v := nI (k0 + 1)) (lv' := [(5, .int (nI (k0 + 1))), (7, .int (tx r i)), (0, .ref (g 2)), (1, .ref q), (2, .ref (g 3)), (3, .int (nI p1)), (4, .int (nI p0)), (6, .int (nI i))]) hx hb dX8_follows_174 hl (k := 6) rfl (nI_1 k0) (by decide) rfl (fun ls hl => ?_)
                      refine lv_iinc (v := nI (p0 + 1)) (lv' := [(4, .int (nI (p0 + 1))), (5, .int (nI (k0 + 1))), (7, .int (tx r i)), (0, .ref (g 2)), (1, .ref q), (2, .ref (g 3)), (3, .int (nI p1)), (6, .int (nI i))]) hx hb dX8_follows_177 hl (k := 6) rfl (nI_1 p0) (by decide) rfl (fun ls hl => ?_)
                      refine lv_iinc (v := nI (i + 1)) (lv' := [(6, .int (nI (i + 1))), (4, .int (nI (p0 + 1))), (5, .int (nI (k0 + 1))), (7, .int (tx r i)), (0, .ref (g 2)), (1, .ref q), (2, .ref (g 3)), (3, .int (nI p1))]) hx hb dX8_follows_180 hl (k := 7) rfl (nI_1 i) (by decide) rfl (fun ls hl => ?_)
                      refine lv_goto (tgt := 9) hx hb dX8_follows_183 (by decide) ?_
                      refine ih_9 (i + 1) (by omega) (p0 + 1) (k0 + 1) (upd u k0 ((tx t p0) - 48)) (⟨fw_some hi_l hx_i.1 (by simp [fwS, c_15, n_15, c_32, n_32, hp_32, n_46, n_69, c_79, n_79, hk_79, c_98, eq_true c_114, c_125, n_125, hp_125, n_141]), by omega, by omega⟩) _ _ hwo hit hS ls (lv_eqv (lv_sub (l' := [(0, .ref (g 2)), (1, .ref q), (2, .ref (g 3)), (3, .int (nI p1)), (4, .int (nI (p0 + 1))), (5, .int (nI (k0 + 1))), (6, .int (nI (i + 1)))]) hl [4, 5, 6, 7, 1, 2, 0] rfl) ?_)
                      rfl
                    · have n_141 := bI_n0.mp c_141
                      refine lv_iinc (v := nI (p0 + 1)) (lv' := [(4, .int (nI (p0 + 1))), (7, .int (tx r i)), (0, .ref (g 2)), (1, .ref q), (2, .ref (g 3)), (3, .int (nI p1)), (5, .int (nI k0)), (6, .int (nI i))]) hx hb dX8_follows_144 hl (k := 5) rfl (nI_1 p0) (by decide) rfl (fun ls hl => ?_)
                      refine lv_aload_n hx hb dX8_follows_147 rfl (lv_at hl 2 rfl) ?_
                      refine g_get (ci := 7) (v := .ref (g 6)) h0 hF inX8 hwo.1 0 rfl rfl 2 (by decide) wf_X8_20 rfl rfl dX8_follows_148 ?_
                      refine lv_iload hx hb dX8_follows_151 (lv_at hl 6 rfl) ?_
                      refine lv_bipush (v := 10) hx hb dX8_follows_153 (by decide) ?_
                      refine lv_aload_n hx hb dX8_follows_155 rfl (lv_at hl 2 rfl) ?_
                      refine g_get (ci := 7) (v := .ref (g 6)) h0 hF inX8 hwo.1 0 rfl rfl 2 (by decide) wf_X8_20 rfl rfl dX8_follows_156 ?_
                      refine lv_iload hx hb dX8_follows_159 (lv_at hl 6 rfl) ?_
                      refine g_iald hx hb hK hwo.1 1 0 rfl rfl k0 (rfl) (by omega) (by decide) dX8_follows_161 ?_
                      refine lv_topE (y := tx t p0 - 48) (pk_us) ?_
                      refine lv_imul hx hb dX8_follows_162 ?_
                      refine lv_aload_n hx hb dX8_follows_163 rfl (lv_at hl 4 rfl) ?_
                      refine lv_iload hx hb dX8_follows_164 (lv_at hl 0 rfl) ?_
                      refine core_p (v := .int (nI (t.getD (p0 + 1) 0))) (grV (n := 1) (As := [.int (nI (p0 + 1))]) (rest := [.int (10 * (tx t p0 - 48)), .int (nI k0), .ref (g 6)]) h0 hF (m_J4_charAt_5068e h0 (ow := ow) (t := 24) (a := g 3) (v := lv) (ml := lml) (n := t.length) (cap := lcap) (bs := lbs) (co := fun j => t.getD j 0) (i := (p0 + 1)) (by omega) hnc h130 (hco _ (by omega))) wm_X8_38 wo_J4_charAt_5068e ws_J4__J4_charAt_5068e wz_J4 wc_J4_charAt_5068e ⟨by decide, by decide, by decide +kernel⟩ rfl ⟨Nat.le_of_ble_eq_true rfl, Nat.le_of_ble_eq_true rfl⟩ (ci := 0) ⟨_, hit.1 0 _ rfl⟩ rfl hit hS hAo ⟨Nat.le_of_ble_eq_true rfl, Nat.le_of_ble_eq_true rfl⟩ hl.1 rfl (Nat.le_of_ble_eq_true rfl) dX8_follows_166) ?_
                      refine lv_topE (y := tx t (p0 + 1)) (rfl) ?_
                      refine lv_iadd hx hb dX8_follows_169 ?_
                      refine lv_bipush (v := 48) hx hb dX8_follows_170 (by decide) ?_
                      refine lv_isub hx hb dX8_follows_172 ?_
                      have htg := hwo.tag 1 rfl
                      refine g_iast hx hb hK hwo hS (htg) 1 0 rfl rfl k0 (rfl) (by omega) (by decide) dX8_follows_173 (fun H locs oq hwo' hS => ?_)
                      have hit := hit.fr1 oq (by rw [htg]; omega)
                      have hwo : Tw X ow 23 (woW X g cmd e0 (upd (upd u k0 ((tx t p0) - 48)) k0 (((10 * (tx t p0 - 48)) + (tx t (p0 + 1))) - 48))) H := hwo'
                      refine lv_iinc (v := nI (k0 + 1)) (lv' := [(5, .int (nI (k0 + 1))), (4, .int (nI (p0 + 1))), (7, .int (tx r i)), (0, .ref (g 2)), (1, .ref q), (2, .ref (g 3)), (3, .int (nI p1)), (6, .int (nI i))]) hx hb dX8_follows_174 hl (k := 6) rfl (nI_1 k0) (by decide) rfl (fun ls hl => ?_)
                      refine lv_iinc (v := nI ((p0 + 1) + 1)) (lv' := [(4, .int (nI ((p0 + 1) + 1))), (5, .int (nI (k0 + 1))), (7, .int (tx r i)), (0, .ref (g 2)), (1, .ref q), (2, .ref (g 3)), (3, .int (nI p1)), (6, .int (nI i))]) hx hb dX8_follows_177 hl (k := 1) rfl (nI_1 (p0 + 1)) (by decide) rfl (fun ls hl => ?_)
                      refine lv_iinc (v := nI (i + 1)) (lv' := [(6, .int (nI (i + 1))), (4, .int (nI ((p0 + 1) + 1))), (5, .int (nI (k0 + 1))), (7, .int (tx r i)), (0, .ref (g 2)), (1, .ref q), (2, .ref (g 3)), (3, .int (nI p1))]) hx hb dX8_follows_180 hl (k := 7) rfl (nI_1 i) (by decide) rfl (fun ls hl => ?_)
                      refine lv_goto (tgt := 9) hx hb dX8_follows_183 (by decide) ?_
                      refine ih_9 (i + 1) (by omega) ((p0 + 1) + 1) (k0 + 1) (upd (upd u k0 ((tx t p0) - 48)) k0 (((10 * (tx t p0 - 48)) + (tx t (p0 + 1))) - 48)) (⟨fw_some hi_l hx_i.1 (by simp [fwS, c_15, n_15, c_32, n_32, hp_32, n_46, n_69, c_79, n_79, hk_79, c_98, eq_true c_114, c_125, n_125, hp_125, n_141]), by omega, by omega⟩) _ _ hwo hit hS ls (lv_eqv (lv_sub (l' := [(0, .ref (g 2)), (1, .ref q), (2, .ref (g 3)), (3, .int (nI p1)), (4, .int (nI ((p0 + 1) + 1))), (5, .int (nI (k0 + 1))), (6, .int (nI (i + 1)))]) hl [4, 5, 6, 7, 1, 2, 0] rfl) ?_)
                      rfl
              · refine lv_bipush (v := 97) hx hb dX8_follows_101 (by decide) ?_
                refine lv_goto (tgt := 108) hx hb dX8_follows_103 (by decide) ?_
                refine lv_isub hx hb dX8_follows_108 ?_
                have htg := hwo.tag 1 rfl
                refine g_iast hx hb hK hwo hS (htg) 1 0 rfl rfl k0 (rfl) (by omega) (by decide) dX8_follows_109 (fun H locs oq hwo' hS => ?_)
                have hit := hit.fr1 oq (by rw [htg]; omega)
                have hwo : Tw X ow 23 (woW X g cmd e0 (upd u k0 ((tx t p0) - 97))) H := hwo'
                refine lv_iload hx hb dX8_follows_110 (lv_at hl 0 rfl) ?_
                refine lv_bipush (v := 78) hx hb dX8_follows_112 (by decide) ?_
                refine lv_icmp_ne (tgt := 174) hx hb dX8_follows_114 (by decide) (fun c_114 => ?_) (fun c_114 => absurd (c_98.symm.trans c_114) (by decide))
                refine lv_iinc (v := nI (k0 + 1)) (lv' := [(5, .int (nI (k0 + 1))), (7, .int (tx r i)), (0, .ref (g 2)), (1, .ref q), (2, .ref (g 3)), (3, .int (nI p1)), (4, .int (nI p0)), (6, .int (nI i))]) hx hb dX8_follows_174 hl (k := 6) rfl (nI_1 k0) (by decide) rfl (fun ls hl => ?_)
                refine lv_iinc (v := nI (p0 + 1)) (lv' := [(4, .int (nI (p0 + 1))), (5, .int (nI (k0 + 1))), (7, .int (tx r i)), (0, .ref (g 2)), (1, .ref q), (2, .ref (g 3)), (3, .int (nI p1)), (6, .int (nI i))]) hx hb dX8_follows_177 hl (k := 6) rfl (nI_1 p0) (by decide) rfl (fun ls hl => ?_)
                refine lv_iinc (v := nI (i + 1)) (lv' := [(6, .int (nI (i + 1))), (4, .int (nI (p0 + 1))), (5, .int (nI (k0 + 1))), (7, .int (tx r i)), (0, .ref (g 2)), (1, .ref q), (2, .ref (g 3)), (3, .int (nI p1))]) hx hb dX8_follows_180 hl (k := 7) rfl (nI_1 i) (by decide) rfl (fun ls hl => ?_)
                refine lv_goto (tgt := 9) hx hb dX8_follows_183 (by decide) ?_
                refine ih_9 (i + 1) (by omega) (p0 + 1) (k0 + 1) (upd u k0 ((tx t p0) - 97)) (⟨fw_some hi_l hx_i.1 (by simp [fwS, c_15, n_15, c_32, n_32, hp_32, n_46, n_69, c_79, n_79, hk_79, eq_true c_98, c_114]), by omega, by omega⟩) _ _ hwo hit hS ls (lv_eqv (lv_sub (l' := [(0, .ref (g 2)), (1, .ref q), (2, .ref (g 3)), (3, .int (nI p1)), (4, .int (nI (p0 + 1))), (5, .int (nI (k0 + 1))), (6, .int (nI (i + 1)))]) hl [4, 5, 6, 7, 1, 2, 0] rfl) ?_)
                rfl
        · have n_46 := bI_0.mp c_46
          refine lv_aload_n hx hb dX8_follows_49 rfl (lv_at hl 1 rfl) ?_
          refine lv_aload_n hx hb dX8_follows_50 rfl (lv_at hl 1 rfl) ?_
          refine g_get (ci := 7) (v := .int e0) h0 hF inX8 hwo.1 0 rfl rfl 1 (by decide) wf_X8_28 rfl rfl dX8_follows_51 ?_
          refine lv_iload hx hb dX8_follows_54 (lv_at hl 5 rfl) ?_
          refine va_mmax hx hb (by rw [hl.1]; exact hml) hown (hG.hts h0 _ _ wm_X8_62) (hG.hts h0 _ _ wt_J9_max_7cf53) (hG.hts h0 _ _ wz_J9) (hG.hts h0 _ _ wc_J9_max_7cf53) (Nat.le_of_ble_eq_true rfl) (Nat.le_of_ble_eq_true rfl) (Nat.zero_le _) (Nat.zero_le _) dX8_follows_56 ?_
          have htg := hwo.tag 0 rfl
          refine g_put (ci := 7) h0 hF inX8 tyX8 tyX8_ok nmX8 hwo hS (htg) 0 rfl rfl 1 (by decide) wf_X8_28 rfl rfl (tyX8_ok 1 (by decide)) rfl rfl (Nat.le_of_ble_eq_true rfl) dX8_follows_59 (fun H locs oq hwo' hS => ?_)
          have hit := hit.fr1 oq (by rw [htg]; omega)
          have hwo : Tw X ow 23 (woW X g cmd (if e0 < nI p0 then nI p0 else e0) u) H := hwo'
          refine lv_iconst (v := 0) hx hb dX8_follows_62 (by decide) ?_
          exact mm_zret hF hS dX8_follows_63 rfl (by rw [fw_none hi_l hx_i.1 (by simp [fwS, c_15, n_15, c_32, n_32, hp_32, n_46])]; exact ⟨rfl, hwo, ⟨lv, lcap, lml, lbs, hit, hnc, h16, h130, hfit, hco, hmx⟩⟩)
  exact key_9 (r.length) 0 (by omega) p1 0 nu (⟨rfl, hp1, by omega⟩) _ _ hwo hit hS ls (lv_sub hl [3, 4, 5, 6, 2, 1, 0] rfl)
