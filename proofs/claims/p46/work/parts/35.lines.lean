theorem Tw.mv {X : Cx} {ow ow1 : Nat → Nat} {t u N : Nat} {ws : va_W} {H H1 : Heap} (h : Tw X ow t ws H) (hk : ∀ q : Nat, q < H.size → ¬ (ow q = u ∨ N ≤ q) → H1[q]? = H[q]?) (hu : t ≠ u) (hN : H.size ≤ N) (hag : ∀ q, q < N → ow1 q = ow q) : Tw X ow1 t ws H1 := ⟨(h.keepN hk hu hN).1, (h.re hN hag).2⟩
theorem bfH.mv {X : Cx} {ow ow1 : Nat → Nat} {t u N a n : Nat} {co : Nat → Nat} {H H1 : Heap} (h : bfH X ow t a n co H) (hk : ∀ q : Nat, q < H.size → ¬ (ow q = u ∨ N ≤ q) → H1[q]? = H[q]?) (hu : t ≠ u) (hN : H.size ≤ N) (hag : ∀ q, q < N → ow1 q = ow q) : bfH X ow1 t a n co H1 := by
  obtain ⟨v, cap, ml, bs, h1, h2⟩ := h
  exact ⟨v, cap, ml, bs, h1.mv hk hu hN hag, h2⟩
/-- the line's builder has changed -/
theorem SBP.line {X : Cx} {cm : Nat → Nat} {o : Nat} {σ : Sb} {ow ow1 : Nat → Nat} {f : Nat → Nat → Nat} {g : Nat → Nat} {H H1 : Heap} {N n : Nat} {co : Nat → Nat} (h : SBP X cm o σ ow f g H) (hk : ∀ q : Nat, q < H.size → ¬ (ow q = 25 ∨ N ≤ q) → H1[q]? = H[q]?) (hN : H.size ≤ N) (hz : X.z ≤ N) (hag : ∀ q, q < N → ow1 q = ow q) (hn : n ≤ 60) (hb : bfH X ow1 25 (g 4) n co H1) : SBP X cm o σ ow1 f g H1 := by
  obtain ⟨a1, a2, a3, a4, a5, ⟨c, e, nu, b1, b2⟩, a7, -, a9⟩ := h
  refine ⟨fun q hq => ?_, a2.mv hk (by decide) hN hag, fun i hi => (a3 i hi).mv hk (by omega) hN hag, a4.mv hk (by decide) hN hag, a5.mv hk (by decide) hN hag, ⟨c, e, nu, b1, b2.mv hk (by decide) hN hag⟩, a7.mv hk (by decide) hN hag, ⟨n, co, hn, hb⟩, a9⟩
  by_cases h9 : q < N
  · rw [hag q h9] at hq; exact a1 q hq
  · omega
/-- what has been told but not read -/
def sbIn (σ : Sb) (n : Nat) (co : Nat → Nat) : Sb := (σ.1, σ.2.1, σ.2.2.1, (fun j => if j = 3 then n else σ.2.2.2.1 j), σ.2.2.2.2.1, co)
theorem SBP.inp {X : Cx} {cm : Nat → Nat} {o : Nat} {σ : Sb} {ow ow1 : Nat → Nat} {f : Nat → Nat → Nat} {g : Nat → Nat} {H H1 : Heap} {N n : Nat} {co : Nat → Nat} (h : SBP X cm o σ ow f g H) (hk : ∀ q : Nat, q < H.size → ¬ (ow q = 24 ∨ N ≤ q) → H1[q]? = H[q]?) (hN : H.size ≤ N) (hz : X.z ≤ N) (hag : ∀ q, q < N → ow1 q = ow q) (hn : n ≤ 60) (hb : bfH X ow1 24 (g 3) n co H1) : SBP X cm o (sbIn σ n co) ow1 f g H1 := by
  obtain ⟨a1, a2, a3, a4, a5, ⟨c, e, nu, b1, b2⟩, a7, ⟨m, cl, d1, d2⟩, a9⟩ := h
  refine ⟨fun q hq => ?_, a2.mv hk (by decide) hN hag, fun i hi => ?_, a4.mv hk (by decide) hN hag, a5.mv hk (by decide) hN hag, ⟨c, e, nu, b1, b2.mv hk (by decide) hN hag⟩, hb, ⟨m, cl, d1, d2.mv hk (by decide) hN hag⟩, hn⟩
  · by_cases h9 : q < N
    · rw [hag q h9] at hq; exact a1 q hq
    · omega
  · have ek : sbK (sbIn σ n co) i = sbK σ i := by
      match i with
      | 0 => rfl
      | 1 => rfl
      | n + 2 => rfl
    rw [ek]
    exact (a3 i hi).mv hk (by omega) hN hag
/-- the whole object, and how long its line is -/
def SBL (X : Cx) (cm : Nat → Nat) (o : Nat) (σ : Sb) (n : Nat) (H : Heap) : Prop := n ≤ 60 ∧ ∃ (ow : Nat → Nat) (f : Nat → Nat → Nat) (g : Nat → Nat) (co : Nat → Nat), SBP X cm o σ ow f g H ∧ bfH X ow 25 (g 4) n co H

set_option maxHeartbeats 4000000 in
set_option maxRecDepth 100000 in
theorem m_X9_writeIfAny {X : Cx} {l : Launch} (h0 : Init X) {cm : Nat → Nat} {o : Nat} {σ : Sb} {n sg w : Nat} (hn : n + 11 ≤ 60) (hsg : sg < 256) (hw : w < 2 ^ 31) : MM X l yX9_writeIfAny cX9_writeIfAny 3 none 6 148 2 260 [.ref o, .int (nI sg), .int (nI w)] (SBL X cm o σ n) (fun v H => v = none ∧ ∃ n1, n ≤ n1 ∧ n1 ≤ n + 11 ∧ SBL X cm o σ n1 H) (gA X) := by
  refine Met.mk (Bh := (SBL X cm o σ n)) (by decide) (Nat.le_of_ble_eq_true rfl) ?_
  intro p e s m below meth c ls hF hB hl
  obtain ⟨hn60, ow, f, g, co, hsb, hlb⟩ := hB
  obtain ⟨hz, hob, hsk, hpa, hre, ⟨cw, ew, nu, hcw, hwo⟩, hin, -, hi60⟩ := id hsb
  have hs0 := hsk 0 (by decide)
  have hl : lv_has ls 3 [(0, .ref o), (1, .int (nI sg)), (2, .int (nI w))] := hl
  obtain ⟨hx, hb, hml, hr, hlk, hown, hG⟩ := id hF
  have hK := hG.K h0
  have hS : va_S (gA X) s.heap s.heap [] := va_S.rf
  have hAo : ∀ q, q < X.z → ¬ gA X q := fun q h9 (h8 : X.z ≤ q) => absurd h8 (by omega)
  have hdg := sb_dg_in w
  refine lv_iload_n hx hb dX9_writeIfAny_0 rfl (lv_at hl 2 rfl) ?_
  refine lv_if_le (tgt := 22) hx hb dX9_writeIfAny_1 (by decide) (fun c_1 => ?_) (fun c_1 => ?_)
  · have n_1 := Int32.not_lt.mpr c_1
    refine W.widen (k := 2) (n := 260) (by omega) (by omega) ?_
    exact mm_vret hF hS dX9_writeIfAny_22 (⟨rfl, n, by omega, by omega, by omega, ow, f, g, co, hsb, hlb⟩)
  · have n_1 := Int32.not_le.mp c_1
    refine lv_aload_n hx hb dX9_writeIfAny_4 rfl (lv_at hl 0 rfl) ?_
    refine g_get (ci := 8) (v := .ref (g 4)) h0 hF inX9 hob.1 0 rfl rfl 6 (by decide) wf_X9_47 rfl rfl dX9_writeIfAny_5 ?_
    refine lv_iload_n hx hb dX9_writeIfAny_8 rfl (lv_at hl 1 rfl) ?_
    obtain ⟨lv, lcap, lml, lbs, hlt, -⟩ := id hlb
    refine core_m (A1 := fun q => ow q = 25 ∨ s.heap.size ≤ q) (grV (Bh := (fun H1 => bfH X ow 25 (g 4) (n) co H1 ∧ s.heap.size ≤ H1.size)) (n := 1) (As := [.int (nI sg)]) (rest := []) h0 hF (m_J4_append_c h0 (ow := ow) (t := 25) (a := g 4) (n := n) (N := s.heap.size) (co := co) (fun q h => hz q (by omega)) (Nat.le_trans hG.2.1 hS.1) (cv := sg) (by omega) (hsg)) wm_X9_77 wo_J4_append_cf468 ws_J4__J4_append_cf468 wz_J4 wc_J4_append_cf468 ⟨by decide, by decide, by decide +kernel⟩ rfl ⟨Nat.le_of_ble_eq_true rfl, Nat.le_of_ble_eq_true rfl⟩ (ci := 0) ⟨_, hlt.1 0 _ rfl⟩ rfl ⟨hlb, Nat.le_refl _⟩ hS hAo ⟨Nat.le_of_ble_eq_true rfl, Nat.le_of_ble_eq_true rfl⟩ hl.1 rfl (Nat.le_of_ble_eq_true rfl) dX9_writeIfAny_9) hS (fun q (h8 : ow q = 25 ∨ s.heap.size ≤ q) => (show X.z ≤ q from h8.elim (fun h => hz q (by omega)) (fun h => Nat.le_trans (Nat.le_trans hG.2.1 hS.1) h))) (fun v' H locs hq' hz1 hk1 hS' => ?_)
    obtain ⟨rfl, ow1, hag, hbf⟩ := hq'
    obtain ⟨ow, hsb, co, hlb⟩ : ∃ ow2, SBP X cm o σ ow2 f g H ∧ ∃ co2, bfH X ow2 25 (g 4) (n + 1) co2 H := ⟨ow1, hsb.line hk1 (Nat.le_refl _) (Nat.le_trans hG.2.1 hS.1) hag (by omega) hbf, _, hbf⟩
    have hS := hS'
    obtain ⟨hz, hob, hsk, hpa, hre, ⟨cw, ew, nu, hcw, hwo⟩, hin, -, hi60⟩ := id hsb
    have hs0 := hsk 0 (by decide)
    refine lv_pop hx hb dX9_writeIfAny_12 rfl ?_
    refine lv_aload_n hx hb dX9_writeIfAny_13 rfl (lv_at hl 0 rfl) ?_
    refine g_get (ci := 8) (v := .ref (g 4)) h0 hF inX9 hob.1 0 rfl rfl 6 (by decide) wf_X9_47 rfl rfl dX9_writeIfAny_14 ?_
    refine lv_iload_n hx hb dX9_writeIfAny_17 rfl (lv_at hl 2 rfl) ?_
    obtain ⟨lv, lcap, lml, lbs, hlt, -⟩ := id hlb
    refine core_m (A1 := fun q => ow q = 25 ∨ H.size ≤ q) (grV (Bh := (fun H1 => bfH X ow 25 (g 4) (n + 1) co H1 ∧ H.size ≤ H1.size)) (n := 1) (As := [.int (nI w)]) (rest := []) h0 hF (m_J4_append_i h0 (ow := ow) (t := 25) (a := g 4) (n := n + 1) (N := H.size) (co := co) (fun q h => hz q (by omega)) (Nat.le_trans hG.2.1 hS.1) (w := w) (by omega) (by omega)) wm_X9_276 wo_J4_append_bf812 ws_J4__J4_append_bf812 wz_J4 wc_J4_append_bf812 ⟨by decide, by decide, by decide +kernel⟩ rfl ⟨Nat.le_of_ble_eq_true rfl, Nat.le_of_ble_eq_true rfl⟩ (ci := 0) ⟨_, hlt.1 0 _ rfl⟩ rfl ⟨hlb, Nat.le_refl _⟩ hS hAo ⟨Nat.le_of_ble_eq_true rfl, Nat.le_of_ble_eq_true rfl⟩ hl.1 rfl (Nat.le_of_ble_eq_true rfl) dX9_writeIfAny_18) hS (fun q (h8 : ow q = 25 ∨ H.size ≤ q) => (show X.z ≤ q from h8.elim (fun h => hz q (by omega)) (fun h => Nat.le_trans (Nat.le_trans hG.2.1 hS.1) h))) (fun v' H locs hq' hz1 hk1 hS' => ?_)
    obtain ⟨rfl, ow1, co1, hag, hbf⟩ := hq'
    obtain ⟨ow, hsb, co, hlb⟩ : ∃ ow2, SBP X cm o σ ow2 f g H ∧ ∃ co2, bfH X ow2 25 (g 4) (n + 1 + sb_dg w) co2 H := ⟨ow1, hsb.line hk1 (Nat.le_refl _) (Nat.le_trans hG.2.1 hS.1) hag (by omega) hbf, _, hbf⟩
    have hS := hS'
    obtain ⟨hz, hob, hsk, hpa, hre, ⟨cw, ew, nu, hcw, hwo⟩, hin, -, hi60⟩ := id hsb
    have hs0 := hsk 0 (by decide)
    refine lv_pop hx hb dX9_writeIfAny_21 rfl ?_
    refine W.widen (k := 2) (n := 260) (by omega) (by omega) ?_
    exact mm_vret hF hS dX9_writeIfAny_22 (⟨rfl, n + 1 + sb_dg w, by omega, by omega, by omega, ow, f, g, co, hsb, hlb⟩)
