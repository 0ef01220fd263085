theorem SBP.wo {X : Cx} {cm : Nat → Nat} {o : Nat} {σ : Sb} {ow : Nat → Nat} {f : Nat → Nat → Nat} {g : Nat → Nat} {H H1 : Heap} {c : Nat} {e : Int32} {nu : Nat → Int32} (h : SBP X cm o σ ow f g H) (hk : ∀ q : Nat, q < H.size → ¬ (ow q = 23) → H1[q]? = H[q]?) (hc : c < 12) (hw : Tw X ow 23 (woW X g (cm c) e nu) H1) : SBP X cm o σ ow f g H1 := by
  obtain ⟨a1, a2, a3, a4, a5, -, a7, ⟨n, co, d1, d2⟩, a9⟩ := h
  have hk2 := fun (t : Nat) (ht : t ≠ 23) => (fun q h9 (h8 : ow q = 23) => by omega : ∀ q, ow q = t → ¬ (fun q => ow q = 23) q)
  exact ⟨a1, a2.keep hk (hk2 20 (by decide)), fun i hi => (a3 i hi).keep hk (hk2 i (by omega)), a4.keep hk (hk2 21 (by decide)), a5.keep hk (hk2 22 (by decide)), ⟨c, e, nu, hc, hw⟩, a7.keep hk (hk2 24 (by decide)), ⟨n, co, d1, d2.keep hk (hk2 25 (by decide))⟩, a9⟩
theorem bfH.txt {X : Cx} {ow : Nat → Nat} {t a n : Nat} {co : Nat → Nat} {H : Heap} {l : List Nat} (h : bfH X ow t a n co H) (hn : n = l.length) (hc : ∀ j, j < n → co j = l.getD j 0) : bfH X ow t a l.length (fun j => l.getD j 0) H := by
  obtain ⟨v, cap, ml, bs, h1, h2, h3, h4, h5, h6, h7⟩ := h
  subst hn
  exact ⟨v, cap, ml, bs, h1, h2, h3, h4, h5, fun j hj => by show l.getD j 0 < 256 ∧ bs j = sb_b (l.getD j 0); rw [← hc j hj]; exact h6 j hj, h7⟩
/-- a refusal behind a command -/
def ofE (E : Nat → Int32) (n : Int32) : Nat → Int32 := upd (upd (upd (upd E 2 (E 0)) 3 (upd E 2 (E 0) 1)) 0 13) 1 n
def ofR (E : Nat → Int32) (cd n : Int32) : Nat → Int32 := if cd = -3 then ofE E n else rfN 14 n
/-- a command of a text: where it begins, which, where it ends, its numbers -/
abbrev Pc : Type := Nat × Nat × Nat × Int32 × Int32 × Int32
def Prs (t : List Nat) (L : List Pc) : Prop := (∀ e u, (ccR t 60 1 0 e u).1 = nI L.length) ∧ L.length < 100 ∧ (∀ (j : Nat) (x : Pc), L[j]? = some x → x.1 ≤ t.length ∧ x.2.1 < 12 ∧ x.2.2.1 ≤ t.length ∧ (∀ u, (fcR t x.1 formL 0 (nI x.1) u).1 = some (x.2.1, x.2.2.1)) ∧ ∀ u k E, oCmd k E x.2.1 ((fcR t x.1 formL 0 (nI x.1) u).2.2 0) ((fcR t x.1 formL 0 (nI x.1) u).2.2 1) ((fcR t x.1 formL 0 (nI x.1) u).2.2 2) = oCmd k E x.2.1 x.2.2.2.1 x.2.2.2.2.1 x.2.2.2.2.2) ∧ (∀ (j : Nat) (x : Pc), L[j]? = some x → x.1 = match j with | 0 => 0 | i + 1 => (L.getD i (0, 0, 0, 0, 0, 0)).2.2.1 + 1)
def pE (E E' : Nat → Int32) : Nat → Int32 := fun i => if i < 4 then E' i else E i
def runL : List Pc → Nat → Sk → (Nat → Int32) → Option (Int32 × Nat) × Sk × (Nat → Int32)
  | [], _, k, E => (none, k, E)
  | x :: r, n, k, E => if (oCmd k E x.2.1 x.2.2.2.1 x.2.2.2.2.1 x.2.2.2.2.2).1 < 0 then (some ((oCmd k E x.2.1 x.2.2.2.1 x.2.2.2.2.1 x.2.2.2.2.2).1, n), (oCmd k E x.2.1 x.2.2.2.1 x.2.2.2.2.1 x.2.2.2.2.2).2.1, pE E (oCmd k E x.2.1 x.2.2.2.1 x.2.2.2.2.1 x.2.2.2.2.2).2.2) else runL r (n + 1) (oCmd k E x.2.1 x.2.2.2.1 x.2.2.2.2.1 x.2.2.2.2.2).2.1 (pE E (oCmd k E x.2.1 x.2.2.2.1 x.2.2.2.2.1 x.2.2.2.2.2).2.2)
theorem runL_drop {L : List Pc} {j : Nat} {x : Pc} {k : Sk} {E : Nat → Int32} (h : L[j]? = some x) : runL (L.drop j) j k E = if (oCmd k E x.2.1 x.2.2.2.1 x.2.2.2.2.1 x.2.2.2.2.2).1 < 0 then (some ((oCmd k E x.2.1 x.2.2.2.1 x.2.2.2.2.1 x.2.2.2.2.2).1, j), (oCmd k E x.2.1 x.2.2.2.1 x.2.2.2.2.1 x.2.2.2.2.2).2.1, pE E (oCmd k E x.2.1 x.2.2.2.1 x.2.2.2.2.1 x.2.2.2.2.2).2.2) else runL (L.drop (j + 1)) (j + 1) (oCmd k E x.2.1 x.2.2.2.1 x.2.2.2.2.1 x.2.2.2.2.2).2.1 (pE E (oCmd k E x.2.1 x.2.2.2.1 x.2.2.2.2.1 x.2.2.2.2.2).2.2) := by
  obtain ⟨hj, rfl⟩ := List.getElem?_eq_some_iff.mp h
  rw [List.drop_eq_getElem_cons hj]
  rfl
/-- the sky is noted, and then is k, the refusal E -/
def tauS (σ : Sb) (k : Sk) (E : Nat → Int32) : Sb := (k, (sbNote σ).2.1, (sbNote σ).2.2.1, σ.2.2.2.1, E, σ.2.2.2.2.2)
theorem sbS_tau (σ : Sb) (k : Sk) (E : Nat → Int32) : sbS (tauS σ k E) 0 ((tauS σ k E).2.2.1 (σ.2.2.2.1 1)) = tauS σ σ.1 E := by
  unfold sbS tauS sbNote
  simp only [if_true]
  refine Prod.ext ?_ (Prod.ext ?_ (Prod.ext ?_ rfl))
  · rfl
  · rfl
  · funext n
    exact if_neg (by omega)
/-- a text carried out -/
def cinR (σ : Sb) (L : List Pc) : Int32 × Sb := match runL L 0 σ.1 σ.2.2.2.2.1 with
  | (none, k, E) => (nI L.length, sbKeep (tauS σ k E))
  | (some c, k, E) => (-3, tauS σ σ.1 (pE E (ofR E c.1 (nI c.2))))

set_option maxHeartbeats 4000000 in
set_option maxRecDepth 100000 in
theorem m_X3_of_3 {X : Cx} {l : Launch} (h0 : Init X) {ow : Nat → Nat} {t a : Nat} {E : Nat → Int32} (hz : ∀ q, ow q = t → X.z ≤ q) (cd n : Int32) (h : cd = -3) : MM X l yX3_ofCommand cX3_ofCommand 3 (some .int) 1 22 0 0 [.ref a, .int cd, .int n] (Tw X ow t (reW a E)) (fun v H => v = some (.int (-3)) ∧ Tw X ow t (reW a (ofE E n)) H) (fun q => ow q = t) := by
  refine Met.mk (Bh := (Tw X ow t (reW a E))) (by decide) (Nat.le_of_ble_eq_true rfl) ?_
  intro p e s m below meth c ls hF hB hl
  have hR := hB
  have hl : lv_has ls 3 [(0, .ref a), (1, .int cd), (2, .int n)] := hl
  obtain ⟨hx, hb, hml, hr, hlk, hown, hG⟩ := id hF
  have hK := hG.K h0
  have hS : va_S (fun q => ow q = t) s.heap s.heap [] := va_S.rf
  have hAo : ∀ q, q < X.z → ¬ (fun q => ow q = t) q := fun q h9 (h8 : ow q = t) => absurd (hz q h8) (by omega)
  refine lv_iload_n hx hb dX3_ofCommand_0 rfl (lv_at hl 1 rfl) ?_
  refine lv_bipush (v := (-3)) hx hb dX3_ofCommand_1 (by decide) ?_
  refine lv_icmp_eq (tgt := 14) hx hb dX3_ofCommand_3 (by decide) (fun c_3 => ?_) (fun c_3 => absurd h c_3)
  refine lv_aload_n hx hb dX3_ofCommand_14 rfl (lv_at hl 0 rfl) ?_
  refine lv_aload_n hx hb dX3_ofCommand_15 rfl (lv_at hl 0 rfl) ?_
  refine g_get (ci := 2) (v := .int (E 0)) h0 hF inX3 hR.1 0 rfl rfl 0 (by decide) wf_X3_9 rfl rfl dX3_ofCommand_16 ?_
  have htg := hR.tag 0 rfl
  refine g_put (ci := 2) h0 hF inX3 tyX3 tyX3_ok nmX3 hR hS (htg) 0 rfl rfl 2 (by decide) wf_X3_18 rfl rfl (tyX3_ok 2 (by decide)) rfl rfl (Nat.le_of_ble_eq_true rfl) dX3_ofCommand_19 (fun H locs oq hR' hS => ?_)
  have hR : Tw X ow t (reW a (upd E 2 (E 0))) H := hR'
  refine lv_aload_n hx hb dX3_ofCommand_22 rfl (lv_at hl 0 rfl) ?_
  refine lv_aload_n hx hb dX3_ofCommand_23 rfl (lv_at hl 0 rfl) ?_
  refine g_get (ci := 2) (v := .int ((upd E 2 (E 0)) 1)) h0 hF inX3 hR.1 0 rfl rfl 1 (by decide) wf_X3_15 rfl rfl dX3_ofCommand_24 ?_
  have htg := hR.tag 0 rfl
  refine g_put (ci := 2) h0 hF inX3 tyX3 tyX3_ok nmX3 hR hS (htg) 0 rfl rfl 3 (by decide) wf_X3_21 rfl rfl (tyX3_ok 3 (by decide)) rfl rfl (Nat.le_of_ble_eq_true rfl) dX3_ofCommand_27 (fun H locs oq hR' hS => ?_)
  have hR : Tw X ow t (reW a (upd (upd E 2 (E 0)) 3 ((upd E 2 (E 0)) 1))) H := hR'
  refine lv_aload_n hx hb dX3_ofCommand_30 rfl (lv_at hl 0 rfl) ?_
  refine lv_bipush (v := 13) hx hb dX3_ofCommand_31 (by decide) ?_
  have htg := hR.tag 0 rfl
  refine g_put (ci := 2) h0 hF inX3 tyX3 tyX3_ok nmX3 hR hS (htg) 0 rfl rfl 0 (by decide) wf_X3_9 rfl rfl (tyX3_ok 0 (by decide)) rfl rfl (Nat.le_of_ble_eq_true rfl) dX3_ofCommand_33 (fun H locs oq hR' hS => ?_)
  have hR : Tw X ow t (reW a (upd (upd (upd E 2 (E 0)) 3 ((upd E 2 (E 0)) 1)) 0 13)) H := hR'
  refine lv_aload_n hx hb dX3_ofCommand_36 rfl (lv_at hl 0 rfl) ?_
  refine lv_iload_n hx hb dX3_ofCommand_37 rfl (lv_at hl 2 rfl) ?_
  have htg := hR.tag 0 rfl
  refine g_put (ci := 2) h0 hF inX3 tyX3 tyX3_ok nmX3 hR hS (htg) 0 rfl rfl 1 (by decide) wf_X3_15 rfl rfl (tyX3_ok 1 (by decide)) rfl rfl (Nat.le_of_ble_eq_true rfl) dX3_ofCommand_38 (fun H locs oq hR' hS => ?_)
  have hR : Tw X ow t (reW a (upd (upd (upd (upd E 2 (E 0)) 3 ((upd E 2 (E 0)) 1)) 0 13) 1 n)) H := hR'
  refine lv_bipush (v := (-3)) hx hb dX3_ofCommand_41 (by decide) ?_
  exact mm_iret hF hS dX3_ofCommand_43 (⟨rfl, hR⟩)

set_option maxHeartbeats 4000000 in
set_option maxRecDepth 100000 in
theorem m_X3_of_n {X : Cx} {l : Launch} (h0 : Init X) {ow : Nat → Nat} {t a : Nat} {E : Nat → Int32} (hz : ∀ q, ow q = t → X.z ≤ q) (cd n : Int32) (h : ¬ cd = -3) : MM X l yX3_ofCommand cX3_ofCommand 3 (some .int) 1 22 0 0 [.ref a, .int cd, .int n] (Tw X ow t (reW a E)) (fun v H => v = some (.int (-3)) ∧ Tw X ow t (reW a (rfN 14 n)) H) (fun q => ow q = t) := by
  refine Met.mk (Bh := (Tw X ow t (reW a E))) (by decide) (Nat.le_of_ble_eq_true rfl) ?_
  intro p e s m below meth c ls hF hB hl
  have hR := hB
  have hl : lv_has ls 3 [(0, .ref a), (1, .int cd), (2, .int n)] := hl
  obtain ⟨hx, hb, hml, hr, hlk, hown, hG⟩ := id hF
  have hK := hG.K h0
  have hS : va_S (fun q => ow q = t) s.heap s.heap [] := va_S.rf
  have hAo : ∀ q, q < X.z → ¬ (fun q => ow q = t) q := fun q h9 (h8 : ow q = t) => absurd (hz q h8) (by omega)
  refine lv_iload_n hx hb dX3_ofCommand_0 rfl (lv_at hl 1 rfl) ?_
  refine lv_bipush (v := (-3)) hx hb dX3_ofCommand_1 (by decide) ?_
  refine lv_icmp_eq (tgt := 14) hx hb dX3_ofCommand_3 (by decide) (fun c_3 => absurd c_3 h) (fun c_3 => ?_)
  refine lv_aload_n hx hb dX3_ofCommand_6 rfl (lv_at hl 0 rfl) ?_
  refine lv_bipush (v := 14) hx hb dX3_ofCommand_7 (by decide) ?_
  refine lv_iload_n hx hb dX3_ofCommand_9 rfl (lv_at hl 2 rfl) ?_
  refine core_m (A1 := fun q => ow q = t) (grV (n := 2) (As := [.int 14, .int n]) (rest := []) h0 hF (m_X3_because h0 (ow := ow) (u := t) (a := a) (E := E) 14 n) wm_X3_24 wo_X3_because ws_X3__X3_because wz_X3 wc_X3_because ⟨by decide, by decide, by decide +kernel⟩ rfl ⟨Nat.le_of_ble_eq_true rfl, Nat.le_of_ble_eq_true rfl⟩ (ci := 2) ⟨_, hR.1 0 _ rfl⟩ rfl hR hS hAo ⟨Nat.le_of_ble_eq_true rfl, Nat.le_of_ble_eq_true rfl⟩ hl.1 rfl (Nat.le_of_ble_eq_true rfl) dX3_ofCommand_10) hS (fun q (h8 : ow q = t) => (show ow q = t from by omega)) (fun v H locs hq hz1 hk1 hS => ?_)
  obtain ⟨rfl, hR⟩ := hq
  have hR : Tw X ow t (reW a (rfN 14 n)) H := hR
  exact mm_iret hF hS dX3_ofCommand_13 (⟨rfl, hR⟩)

theorem m_X3_ofCommand {X : Cx} {l : Launch} (h0 : Init X) {ow : Nat → Nat} {t a : Nat} {E : Nat → Int32} (hz : ∀ q, ow q = t → X.z ≤ q) (cd n : Int32) : MM X l yX3_ofCommand cX3_ofCommand 3 (some .int) 1 22 0 0 [.ref a, .int cd, .int n] (Tw X ow t (reW a E)) (fun v H => v = some (.int (-3)) ∧ Tw X ow t (reW a (ofR E cd n)) H) (fun q => ow q = t) := by
  by_cases h : cd = -3
  · rw [show ofR E cd n = ofE E n from if_pos h]; exact m_X3_of_3 h0 hz cd n h
  · rw [show ofR E cd n = rfN 14 n from if_neg h]; exact m_X3_of_n h0 hz cd n h
