/-- the command that a text has from place p on: which and where it ends; where the last fault is, and the numbers -/
def fcR (t : List Nat) (p : Nat) : List (List Nat) → Nat → Int32 → (Nat → Int32) → Option (Nat × Nat) × Int32 × (Nat → Int32)
  | [], _, e, u => (none, e, u)
  | r :: rs, i, e, u => if (fw t r p 0 u).1 = true then (some (i, (fw t r p 0 u).2.1), nI (fw t r p 0 u).2.1, (fw t r p 0 u).2.2) else fcR t p rs (i + 1) (fwE e (fw t r p 0 u)) (fw t r p 0 u).2.2
theorem fc_drop {t : List Nat} {p j : Nat} {e : Int32} {u : Nat → Int32} (hj : j < 12) : fcR t p (formL.drop j) j e u = if (fw t (formL.getD j []) p 0 u).1 = true then (some (j, (fw t (formL.getD j []) p 0 u).2.1), nI (fw t (formL.getD j []) p 0 u).2.1, (fw t (formL.getD j []) p 0 u).2.2) else fcR t p (formL.drop (j + 1)) (j + 1) (fwE e (fw t (formL.getD j []) p 0 u)) (fw t (formL.getD j []) p 0 u).2.2 := by
  have hl : j < formL.length := hj
  rw [List.drop_eq_getElem_cons hl]
  have e2 : formL.getD j [] = formL[j] := by rw [List.getD_eq_getElem?_getD, List.getElem?_eq_getElem hl]; rfl
  rw [e2]
  rfl
theorem fc_end {t : List Nat} {p j : Nat} {e : Int32} {u : Nat → Int32} (hj : j = 12) : fcR t p (formL.drop j) j e u = (none, e, u) := by
  rw [hj]
  rfl
theorem form_ok : ∀ i, i < 12 → (formL.getD i []).length < 1000 ∧ ∀ x ∈ formL.getD i [], x < 128 := by decide +kernel
theorem getD_lt {l : List Nat} {B : Nat} (hB : 0 < B) (h : ∀ x ∈ l, x < B) (k : Nat) : l.getD k 0 < B := by
  by_cases hk : k < l.length
  · rw [List.getD_eq_getElem?_getD, List.getElem?_eq_getElem hk]
    exact h _ (List.getElem_mem hk)
  · rw [List.getD_eq_getElem?_getD, List.getElem?_eq_none (by omega)]
    exact hB
theorem fwS_le {t : List Nat} {s : Int32} {p k a b : Nat} {u v : Nat → Int32} (h : fwS t s p k u = some (a, b, v)) : a ≤ t.length := by
  unfold fwS at h
  (repeat' split at h) <;> first | (cases h; omega) | (cases h)
theorem fw_le {t r : List Nat} {p k : Nat} {u : Nat → Int32} (hp : p ≤ t.length) : (fw t r p k u).2.1 ≤ t.length := by
  induction r generalizing p k u with
  | nil => exact hp
  | cons s r ih =>
    unfold fw
    split
    · exact hp
    · next h => exact ih (fwS_le h)
theorem fc_le {t : List Nat} {p : Nat} (hp : p ≤ t.length) : ∀ (rs : List (List Nat)) (i : Nat) (e : Int32) (u : Nat → Int32) (x : Nat × Nat), (fcR t p rs i e u).1 = some x → x.2 ≤ t.length ∧ x.1 < i + rs.length ∧ (fcR t p rs i e u).2.1 = nI x.2 := by
  intro rs
  induction rs with
  | nil => intro i e u x h; cases h
  | cons r rs ih =>
    intro i e u x h
    unfold fcR at h ⊢
    by_cases hc : (fw t r p 0 u).1 = true
    · rw [if_pos hc] at h ⊢
      cases h
      exact ⟨fw_le hp, by simp, rfl⟩
    · rw [if_neg hc] at h ⊢
      have := ih _ _ _ _ h
      exact ⟨this.1, by have := this.2.1; simp only [List.length_cons]; omega, this.2.2⟩
/-- which command lies in the words' cell then -/
def fcC (cm : Nat → Nat) (c0 : Nat) (F : Option (Nat × Nat) × Int32 × (Nat → Int32)) : Nat := match F.1 with | some x => cm x.1 | none => c0

set_option maxHeartbeats 4000000 in
set_option maxRecDepth 100000 in
theorem m_X8_findCommand {X : Cx} {l : Launch} (h0 : Init X) {cm qf : Nat → Nat} {tc : Nat} (hW : StW X cm qf tc) {ow : Nat → Nat} {g : Nat → Nat} {cmd p1 : Nat} {e0 : Int32} {nu : Nat → Int32} {t : List Nat} (ht60 : t.length ≤ 60) (hp1 : p1 ≤ t.length) (hz : ∀ q, ow q = 23 → X.z ≤ q) : MM X l yX8_findCommand cX8_findCommand 4 (some .boolean) 5 115 0 0 [.ref (g 2), .ref (g 3), .int (nI p1)] (fun H => Tw X ow 23 (woW X g cmd e0 nu) H ∧ bfH X ow 24 (g 3) t.length (fun j => t.getD j 0) H) (fun v H => v = some (.int (bI (fcR t p1 formL 0 (nI p1) nu).1.isSome)) ∧ Tw X ow 23 (woW X g (fcC cm cmd (fcR t p1 formL 0 (nI p1) nu)) (fcR t p1 formL 0 (nI p1) nu).2.1 (fcR t p1 formL 0 (nI p1) nu).2.2) H ∧ bfH X ow 24 (g 3) t.length (fun j => t.getD j 0) H) (fun q => ow q = 23) := by
  refine Met.mk (Bh := (fun H => Tw X ow 23 (woW X g cmd e0 nu) H ∧ bfH X ow 24 (g 3) t.length (fun j => t.getD j 0) H)) (by decide) (Nat.le_of_ble_eq_true rfl) ?_
  intro p e s m below meth c ls hF hB hl
  obtain ⟨hwo, lv, lcap, lml, lbs, hit, hnc, h16, h130, hfit, hco, hmx⟩ := hB
  have hl : lv_has ls 4 [(0, .ref (g 2)), (1, .ref (g 3)), (2, .int (nI p1))] := hl
  obtain ⟨hx, hb, hml, hr, hlk, hown, hG⟩ := id hF
  have hK := hG.K h0
  have hS : va_S (fun q => ow q = 23) s.heap s.heap [] := va_S.rf
  have hAo : ∀ q, q < X.z → ¬ (fun q => ow q = 23) q := fun q h9 (h8 : ow q = 23) => absurd (hz q h8) (by omega)
  refine lv_aload_n hx hb dX8_findCommand_0 rfl (lv_at hl 0 rfl) ?_
  refine lv_iload_n hx hb dX8_findCommand_1 rfl (lv_at hl 2 rfl) ?_
  have htg := hwo.tag 0 rfl
  refine g_put (ci := 7) h0 hF inX8 tyX8 tyX8_ok nmX8 hwo hS (htg) 0 rfl rfl 1 (by decide) wf_X8_28 rfl rfl (tyX8_ok 1 (by decide)) rfl rfl (Nat.le_of_ble_eq_true rfl) dX8_findCommand_2 (fun H locs oq hwo' hS => ?_)
  have hit := hit.fr1 oq (by rw [htg]; omega)
  have hwo : Tw X ow 23 (woW X g cmd (nI p1) nu) H := hwo'
  refine lv_iconst (v := 0) hx hb dX8_findCommand_5 (by decide) ?_
  refine lv_istore_n (lv' := [(3, .int 0), (0, .ref (g 2)), (1, .ref (g 3)), (2, .int (nI p1))]) hx hb dX8_findCommand_6 rfl hl (by decide) rfl (fun ls hl => ?_)
  have key_7 : ∀ (nf j : Nat), j + nf = 12 → ∀ (e1 : Int32) (u : Nat → Int32), fcR t p1 (formL.drop j) j e1 u = (fcR t p1 formL 0 (nI p1) nu) → ∀ (H : Heap) (locs : List Loc), Tw X ow 23 (woW X g cmd e1 u) H → Tw X ow 24 (bfW X (g 3) lv lml t.length lcap lbs) H → va_S (fun q => ow q = 23) s.heap H locs → ∀ (ls : Array Slot), lv_has ls 4 [(0, .ref (g 2)), (1, .ref (g 3)), (2, .int (nI p1)), (3, .int (nI j))] → W p l e ({ frames := 5, cells := 0, slots := 0, locals := 115 } : Room) s m ([.ref (g 2), .ref (g 3), .int (nI p1)] : List Value).toArray below meth c H locs 0 0 (MQ below (qM (fun v H => v = some (.int (bI (fcR t p1 formL 0 (nI p1) nu).1.isSome)) ∧ Tw X ow 23 (woW X g (fcC cm cmd (fcR t p1 formL 0 (nI p1) nu)) (fcR t p1 formL 0 (nI p1) nu).2.1 (fcR t p1 formL 0 (nI p1) nu).2.2) H ∧ bfH X ow 24 (g 3) t.length (fun j => t.getD j 0) H) (fun q => ow q = 23)) ([.ref (g 2), .ref (g 3), .int (nI p1)] : List Value).toArray s 0 0 (fun q => ow q = 23)) (F0 m 7 ls []) := by
    intro nf
    induction nf with
    | zero =>
      intro j hj e1 u hx_j H locs hwo hit hS ls hl
      have hj_e : j = 12 := by omega
      refine lv_iload_n hx hb dX8_findCommand_7 rfl (lv_at hl 3 rfl) ?_
      refine va_getsN hx hb (hG.Z hAo hW.1) hS hown (hG.nestF h0 _ wfn_X8_42) (fun _ h9 => h9) dX8_findCommand_8 ?_
      refine va_tlen hx hb (hG.T hAo hW.2.1) hS (v := 12) rfl dX8_findCommand_11 ?_
      refine lv_icmp_ge (tgt := 49) hx hb dX8_findCommand_12 (by decide) (fun c_12 => ?_) (fun c_12 => absurd (nI_le (a := 12) (b := j) (by omega) (by omega)) c_12)
      have n_12 := Int32.not_lt.mpr c_12
      refine lv_iconst (v := 0) hx hb dX8_findCommand_49 (by decide) ?_
      exact mm_zret hF hS dX8_findCommand_50 rfl (by rw [← hx_j, fc_end hj_e]; exact ⟨rfl, hwo, ⟨lv, lcap, lml, lbs, hit, hnc, h16, h130, hfit, hco, hmx⟩⟩)
    | succ nf ih_7 =>
      intro j hj e1 u hx_j H locs hwo hit hS ls hl
      have hj_l : j < 12 := by omega
      refine lv_iload_n hx hb dX8_findCommand_7 rfl (lv_at hl 3 rfl) ?_
      refine va_getsN hx hb (hG.Z hAo hW.1) hS hown (hG.nestF h0 _ wfn_X8_42) (fun _ h9 => h9) dX8_findCommand_8 ?_
      refine va_tlen hx hb (hG.T hAo hW.2.1) hS (v := 12) rfl dX8_findCommand_11 ?_
      refine lv_icmp_ge (tgt := 49) hx hb dX8_findCommand_12 (by decide) (fun c_12 => absurd c_12 (nI_ge (a := j) (b := 12) (by omega) (by omega))) (fun c_12 => ?_)
      have n_12 := Int32.not_le.mp c_12
      refine lv_aload_n hx hb dX8_findCommand_15 rfl (lv_at hl 0 rfl) ?_
      refine va_getsN hx hb (hG.Z hAo hW.1) hS hown (hG.nestF h0 _ wfn_X8_42) (fun _ h9 => h9) dX8_findCommand_16 ?_
      refine lv_iload_n hx hb dX8_findCommand_19 rfl (lv_at hl 3 rfl) ?_
      refine vb_tq hx hb (hG.T hAo hW.2.1) hS (i := nI j) (vp_in_nI (by omega) (by decide)) (v := .ref (cm j)) (by rw [nI_clamp (by omega)]) dX8_findCommand_20 ?_
      refine vk_getf hx hb (hG.OF hAo (hW.2.2 j hj_l).1) hS hown (hG.hts h0 _ _ wf_X8_46) (fun _ h9 => h9) dX8_findCommand_21 ?_
      refine lv_aload_n hx hb dX8_findCommand_24 rfl (lv_at hl 1 rfl) ?_
      refine lv_iload_n hx hb dX8_findCommand_25 rfl (lv_at hl 2 rfl) ?_
      refine core_m (A1 := fun q => ow q = 23) (grV (Bh := (fun H => Tw X ow 23 (woW X g cmd e1 u) H ∧ bfH X ow 24 (g 3) t.length (fun j => t.getD j 0) H)) (n := 3) (As := [.ref (qf j), .ref (g 3), .int (nI p1)]) (rest := []) h0 hF (m_X8_follows h0 (ow := ow) (g := g) (cmd := cmd) (q := qf j) (p1 := p1) (e0 := e1) (nu := u) (t := t) (r := formL.getD j []) (hW.2.2 j hj_l).2 (form_ok j hj_l).1 (getD_lt (by decide) (form_ok j hj_l).2) ht60 hp1 hz) wm_X8_50 wo_X8_follows ws_X8__X8_follows wz_X8 wc_X8_follows ⟨by decide, by decide, by decide +kernel⟩ rfl ⟨Nat.le_of_ble_eq_true rfl, Nat.le_of_ble_eq_true rfl⟩ (ci := 7) ⟨_, hwo.1 0 _ rfl⟩ rfl ⟨hwo, ⟨lv, lcap, lml, lbs, hit, hnc, h16, h130, hfit, hco, hmx⟩⟩ hS hAo ⟨Nat.le_of_ble_eq_true rfl, Nat.le_of_ble_eq_true rfl⟩ hl.1 rfl (Nat.le_of_ble_eq_true rfl) dX8_findCommand_26) hS (fun q h8 => h8) (fun v' H locs hq' hz1 hk1 hS => ?_)
      obtain ⟨rfl, hwo, -⟩ := hq'
      have hit := hit.keep hk1 (fun q h9 (h8 : ow q = 23) => by omega)
      refine lv_if_eq (tgt := 43) hx hb dX8_findCommand_29 (by decide) (fun c_29 => ?_) (fun c_29 => ?_)
      · have n_29 := bI_0.mp c_29
        refine lv_iinc (v := nI (j + 1)) (lv' := [(3, .int (nI (j + 1))), (0, .ref (g 2)), (1, .ref (g 3)), (2, .int (nI p1))]) hx hb dX8_findCommand_43 hl (k := 3) rfl (nI_1 j) (by decide) rfl (fun ls hl => ?_)
        refine lv_goto (tgt := 7) hx hb dX8_findCommand_46 (by decide) ?_
        refine ih_7 (j + 1) (by omega) (fwE e1 (fw t (formL.getD j []) p1 0 u)) ((fw t (formL.getD j []) p1 0 u).2.2) (by rw [← hx_j, fc_drop hj_l, if_neg (by rw [n_29]; decide)]) _ _ hwo hit hS ls (lv_eqv (lv_sub (l' := [(0, .ref (g 2)), (1, .ref (g 3)), (2, .int (nI p1)), (3, .int (nI (j + 1)))]) hl [1, 2, 3, 0] rfl) ?_)
        rfl
      · have n_29 := bI_n0.mp c_29
        refine lv_aload_n hx hb dX8_findCommand_32 rfl (lv_at hl 0 rfl) ?_
        refine va_getsN hx hb (hG.Z hAo hW.1) hS hown (hG.nestF h0 _ wfn_X8_42) (fun _ h9 => h9) dX8_findCommand_33 ?_
        refine lv_iload_n hx hb dX8_findCommand_36 rfl (lv_at hl 3 rfl) ?_
        refine vb_tq hx hb (hG.T hAo hW.2.1) hS (i := nI j) (vp_in_nI (by omega) (by decide)) (v := .ref (cm j)) (by rw [nI_clamp (by omega)]) dX8_findCommand_37 ?_
        have htg := hwo.tag 0 rfl
        refine g_put (ci := 7) h0 hF inX8 tyX8 tyX8_ok nmX8 hwo hS (htg) 0 rfl rfl 0 (by decide) wf_X8_15 rfl rfl (tyX8_ok 0 (by decide)) rfl rfl (Nat.le_of_ble_eq_true rfl) dX8_findCommand_38 (fun H locs oq hwo' hS => ?_)
        have hit := hit.fr1 oq (by rw [htg]; omega)
        have hwo : Tw X ow 23 (woW X g (cm j) (fwE e1 (fw t (formL.getD j []) p1 0 u)) ((fw t (formL.getD j []) p1 0 u).2.2)) H := hwo'
        refine lv_iconst (v := 1) hx hb dX8_findCommand_41 (by decide) ?_
        exact mm_zret hF hS dX8_findCommand_42 rfl (by rw [fwE, if_pos n_29] at hwo; rw [← hx_j, fc_drop hj_l, if_pos n_29]; exact ⟨rfl, hwo, ⟨lv, lcap, lml, lbs, hit, hnc, h16, h130, hfit, hco, hmx⟩⟩)
  exact key_7 (12) 0 (by omega) (nI p1) nu (rfl) _ _ hwo hit hS ls (lv_sub hl [1, 2, 3, 0] rfl)
