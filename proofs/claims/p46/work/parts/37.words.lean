/-! the words of a text: D a digit, L a letter of a star, N a number; over the codes of a text t -/
def plB (s : Int32) : Bool := decide (s = 68) || decide (s = 78) || decide (s = 76)
def ftB (x s : Int32) : Bool := if s = 76 then winB x 97 104 else if plB s = true then winB x 48 57 else decide (x = s)
def tx (t : List Nat) (p : Nat) : Int32 := nI (t.getD p 0)
abbrev Fw : Type := Nat × Nat × (Nat → Int32)
def fwS (t : List Nat) (s : Int32) (p k : Nat) (u : Nat → Int32) : Option Fw :=
  if p < t.length then
    if ftB (tx t p) s = true then
      if plB s = true then
        if k < 3 then
          if s = 76 then some (p + 1, k + 1, upd u k (tx t p - 97))
          else if s = 78 then
            if p + 1 < t.length then
              if ftB (tx t (p + 1)) 68 = true then some (p + 2, k + 1, upd (upd u k (tx t p - 48)) k (10 * (tx t p - 48) + tx t (p + 1) - 48))
              else some (p + 1, k + 1, upd u k (tx t p - 48))
            else some (p + 1, k + 1, upd u k (tx t p - 48))
          else some (p + 1, k + 1, upd u k (tx t p - 48))
        else some (p + 1, k, u)
      else some (p + 1, k, u)
    else none
  else none
def fw (t : List Nat) : List Nat → Nat → Nat → (Nat → Int32) → Bool × Nat × (Nat → Int32)
  | [], p, _, u => (true, p, u)
  | s :: r, p, k, u => match fwS t (nI s) p k u with
    | none => (false, p, u)
    | some (a, b, v) => fw t r a b v
theorem fw_drop {t r : List Nat} {i p k : Nat} {u : Nat → Int32} (hi : i < r.length) : fw t (r.drop i) p k u = match fwS t (tx r i) p k u with
    | none => (false, p, u)
    | some (a, b, v) => fw t (r.drop (i + 1)) a b v := by
  rw [List.drop_eq_getElem_cons hi]
  have e : tx r i = nI r[i] := by unfold tx; rw [List.getD_eq_getElem?_getD, List.getElem?_eq_getElem hi]; rfl
  rw [e]
  rfl
theorem fw_some {t r : List Nat} {i p k a b : Nat} {u v : Nat → Int32} {R : Bool × Nat × (Nat → Int32)} (hi : i < r.length) (h : fw t (r.drop i) p k u = R) (hs : fwS t (tx r i) p k u = some (a, b, v)) : fw t (r.drop (i + 1)) a b v = R := by
  rw [fw_drop hi, hs] at h
  exact h
theorem fw_none {t r : List Nat} {i p k : Nat} {u : Nat → Int32} {R : Bool × Nat × (Nat → Int32)} (hi : i < r.length) (h : fw t (r.drop i) p k u = R) (hs : fwS t (tx r i) p k u = none) : R = (false, p, u) := by
  rw [fw_drop hi, hs] at h
  exact h.symm
theorem fw_end {t r : List Nat} {i p k : Nat} {u : Nat → Int32} {R : Bool × Nat × (Nat → Int32)} (hi : i = r.length) (h : fw t (r.drop i) p k u = R) : R = (true, p, u) := by
  rw [hi, List.drop_length] at h
  exact h.symm
/-- where a form ends, or fails -/
def fwE (e : Int32) (R : Bool × Nat × (Nat → Int32)) : Int32 := if R.1 = true then nI R.2.1 else if e < nI R.2.1 then nI R.2.1 else e

set_option maxHeartbeats 4000000 in
set_option maxRecDepth 100000 in
theorem m_X8_isPlace {X : Cx} {l : Launch} (h0 : Init X) (sg : Int32) : PM X l yX8_isPlace cX8_isPlace 1 (some .boolean) 0 0 [.int sg] noW (.int (bI (plB sg))) := by
  refine Met.mk (Bh := noW) (by decide) (Nat.le_of_ble_eq_true rfl) ?_
  intro p e s m below meth c ls hF hB hl
  have hl : lv_has ls 1 [(0, .int sg)] := hl
  obtain ⟨hx, hb, hml, hr, hlk, hown, hG⟩ := id hF
  have hK := hG.K h0
  have hS : va_S noA s.heap s.heap [] := va_S.rf
  refine lv_iload_n hx hb dX8_isPlace_0 rfl (lv_at hl 0 rfl) ?_
  refine lv_bipush (v := 68) hx hb dX8_isPlace_1 (by decide) ?_
  refine lv_icmp_eq (tgt := 18) hx hb dX8_isPlace_3 (by decide) (fun c_3 => ?_) (fun c_3 => ?_)
  · refine lv_iconst (v := 1) hx hb dX8_isPlace_18 (by decide) ?_
    refine lv_goto (tgt := 23) hx hb dX8_isPlace_19 (by decide) ?_
    exact pm_zret hF dX8_isPlace_23 rfl (by simp [plB, bI, c_3])
  · refine lv_iload_n hx hb dX8_isPlace_6 rfl (lv_at hl 0 rfl) ?_
    refine lv_bipush (v := 78) hx hb dX8_isPlace_7 (by decide) ?_
    refine lv_icmp_eq (tgt := 18) hx hb dX8_isPlace_9 (by decide) (fun c_9 => ?_) (fun c_9 => ?_)
    · refine lv_iconst (v := 1) hx hb dX8_isPlace_18 (by decide) ?_
      refine lv_goto (tgt := 23) hx hb dX8_isPlace_19 (by decide) ?_
      exact pm_zret hF dX8_isPlace_23 rfl (by simp [plB, bI, c_3, c_9])
    · refine lv_iload_n hx hb dX8_isPlace_12 rfl (lv_at hl 0 rfl) ?_
      refine lv_bipush (v := 76) hx hb dX8_isPlace_13 (by decide) ?_
      refine lv_icmp_ne (tgt := 22) hx hb dX8_isPlace_15 (by decide) (fun c_15 => ?_) (fun c_15 => ?_)
      · refine lv_iconst (v := 0) hx hb dX8_isPlace_22 (by decide) ?_
        exact pm_zret hF dX8_isPlace_23 rfl (by simp [plB, bI, c_3, c_9, c_15])
      · refine lv_iconst (v := 1) hx hb dX8_isPlace_18 (by decide) ?_
        refine lv_goto (tgt := 23) hx hb dX8_isPlace_19 (by decide) ?_
        exact pm_zret hF dX8_isPlace_23 rfl (by simp [plB, bI, c_3, c_9, c_15])

set_option maxHeartbeats 4000000 in
set_option maxRecDepth 100000 in
theorem m_X8_fits {X : Cx} {l : Launch} (h0 : Init X) (x sg : Int32) : PM X l yX8_fits cX8_fits 2 (some .boolean) 1 22 [.int x, .int sg] noW (.int (bI (ftB x sg))) := by
  refine Met.mk (Bh := noW) (by decide) (Nat.le_of_ble_eq_true rfl) ?_
  intro p e s m below meth c ls hF hB hl
  have hl : lv_has ls 2 [(0, .int x), (1, .int sg)] := hl
  obtain ⟨hx, hb, hml, hr, hlk, hown, hG⟩ := id hF
  have hK := hG.K h0
  have hS : va_S noA s.heap s.heap [] := va_S.rf
  refine lv_iload_n hx hb dX8_fits_0 rfl (lv_at hl 1 rfl) ?_
  refine lv_bipush (v := 76) hx hb dX8_fits_1 (by decide) ?_
  refine lv_icmp_ne (tgt := 15) hx hb dX8_fits_3 (by decide) (fun c_3 => ?_) (fun c_3 => ?_)
  · refine lv_iload_n hx hb dX8_fits_15 rfl (lv_at hl 1 rfl) ?_
    refine core_p (v := .int (bI (plB sg))) (grS (n := 1) (As := [.int sg]) (rest := []) h0 hF (m_X8_isPlace h0 sg) wm_X8_68 wt_X8_isPlace wz_X8 wc_X8_isPlace ⟨by decide, by decide, by decide +kernel⟩ rfl ⟨Nat.le_of_ble_eq_true rfl, Nat.le_of_ble_eq_true rfl⟩ trivial hS noA_old ⟨Nat.zero_le _, Nat.zero_le _⟩ hl.1 rfl (Nat.le_of_ble_eq_true rfl) dX8_fits_16) ?_
    refine lv_if_eq (tgt := 33) hx hb dX8_fits_19 (by decide) (fun c_19 => ?_) (fun c_19 => ?_)
    · have n_19 := bI_0.mp c_19
      refine lv_iload_n hx hb dX8_fits_33 rfl (lv_at hl 0 rfl) ?_
      refine lv_iload_n hx hb dX8_fits_34 rfl (lv_at hl 1 rfl) ?_
      refine lv_icmp_ne (tgt := 42) hx hb dX8_fits_35 (by decide) (fun c_35 => ?_) (fun c_35 => ?_)
      · refine lv_iconst (v := 0) hx hb dX8_fits_42 (by decide) ?_
        exact pm_zret hF dX8_fits_43 rfl (by simp [ftB, bI, c_3, n_19, c_35])
      · refine lv_iconst (v := 1) hx hb dX8_fits_38 (by decide) ?_
        refine lv_goto (tgt := 43) hx hb dX8_fits_39 (by decide) ?_
        exact pm_zret hF dX8_fits_43 rfl (by simp [ftB, bI, c_3, n_19, c_35])
    · have n_19 := bI_n0.mp c_19
      refine lv_iload_n hx hb dX8_fits_22 rfl (lv_at hl 0 rfl) ?_
      refine lv_bipush (v := 48) hx hb dX8_fits_23 (by decide) ?_
      refine lv_bipush (v := 57) hx hb dX8_fits_25 (by decide) ?_
      refine core_p (v := .int (bI (winB x 48 57))) (grSN (n := 3) (As := [.int x, .int 48, .int 57]) (rest := []) h0 hF (m_X9_isWithin h0 x 48 57) wmn_X8_72 wt_X9_isWithin wz_X9 wc_X9_isWithin ⟨by decide, by decide, by decide +kernel⟩ rfl ⟨Nat.le_of_ble_eq_true rfl, Nat.le_of_ble_eq_true rfl⟩ trivial hS noA_old ⟨Nat.zero_le _, Nat.zero_le _⟩ hl.1 rfl (Nat.le_of_ble_eq_true rfl) dX8_fits_27) ?_
      refine lv_goto (tgt := 43) hx hb dX8_fits_30 (by decide) ?_
      exact pm_zret hF dX8_fits_43 (bI_nar _) (by simp [ftB, bI, c_3, n_19])
  · refine lv_iload_n hx hb dX8_fits_6 rfl (lv_at hl 0 rfl) ?_
    refine lv_bipush (v := 97) hx hb dX8_fits_7 (by decide) ?_
    refine lv_bipush (v := 104) hx hb dX8_fits_9 (by decide) ?_
    refine core_p (v := .int (bI (winB x 97 104))) (grSN (n := 3) (As := [.int x, .int 97, .int 104]) (rest := []) h0 hF (m_X9_isWithin h0 x 97 104) wmn_X8_72 wt_X9_isWithin wz_X9 wc_X9_isWithin ⟨by decide, by decide, by decide +kernel⟩ rfl ⟨Nat.le_of_ble_eq_true rfl, Nat.le_of_ble_eq_true rfl⟩ trivial hS noA_old ⟨Nat.zero_le _, Nat.zero_le _⟩ hl.1 rfl (Nat.le_of_ble_eq_true rfl) dX8_fits_11) ?_
    exact pm_zret hF dX8_fits_14 (bI_nar _) (by simp [ftB, bI, c_3])
