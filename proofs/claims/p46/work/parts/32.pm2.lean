section
variable {X : Cx} {p : Program} {l : Launch} {e : Env} {R : Room} {s : State} {m : MethodId} {args : Array Value} {below : List Frame} {meth : Method} {c : Code} {H : Heap} {locs : List Loc} {cells slots : Nat} {Q : State → Prop}
variable {cc : ByteArray} {nL pc : Nat} {ls : Array Slot} {own : String} {A : Nat → Prop} {mc ms : Nat}
theorem pm_dret {v : Value} {r : UInt64} (hF : FX X p s m meth c cc nL (some .double) own) (hdg : decode cc pc = .ok (.dreturn, 1)) (he : v = .double r) : W p l e R s m args below meth c s.heap [] 0 0 (MQ below (qP v) args s 0 0 noA) (F0 m pc ls [.double r]) := by
  obtain ⟨hx, hb, hml, hr, hlk, hown, hG⟩ := hF
  subst he
  exact W.dret hx hb hr (fun t ht _ => ⟨rfl, ht⟩) (fun q hq => absurd hq List.not_mem_nil) hdg hlk
theorem pm_fret {v : Value} {r : UInt32} (hF : FX X p s m meth c cc nL (some .float) own) (hdg : decode cc pc = .ok (.freturn, 1)) (he : v = .float r) : W p l e R s m args below meth c s.heap [] 0 0 (MQ below (qP v) args s 0 0 noA) (F0 m pc ls [.float r]) := by
  obtain ⟨hx, hb, hml, hr, hlk, hown, hG⟩ := hF
  subst he
  exact W.fret hx hb hr (fun t ht _ => ⟨rfl, ht⟩) (fun q hq => absurd hq List.not_mem_nil) hdg hlk
theorem pm_lret {v : Value} {r : Int64} (hF : FX X p s m meth c cc nL (some .long) own) (hdg : decode cc pc = .ok (.lreturn, 1)) (he : v = .long r) : W p l e R s m args below meth c s.heap [] 0 0 (MQ below (qP v) args s 0 0 noA) (F0 m pc ls [.long r]) := by
  obtain ⟨hx, hb, hml, hr, hlk, hown, hG⟩ := hF
  subst he
  exact W.lret hx hb hr (fun t ht _ => ⟨rfl, ht⟩) (fun q hq => absurd hq List.not_mem_nil) hdg hlk
theorem pm_aret {v : Value} {a : Nat} {n : String} (hF : FX X p s m meth c cc nL (some (.object n)) own) (hdg : decode cc pc = .ok (.areturn, 1)) (he : v = .ref a) : W p l e R s m args below meth c s.heap [] 0 0 (MQ below (qP v) args s 0 0 noA) (F0 m pc ls [.ref a]) := by
  obtain ⟨hx, hb, hml, hr, hlk, hown, hG⟩ := hF
  subst he
  exact W.aret hx hb hr (Or.inl ⟨_, rfl⟩) (Or.inr ⟨_, rfl⟩) (fun t ht _ => ⟨rfl, ht⟩) (fun q hq => absurd hq List.not_mem_nil) hdg hlk
theorem mm_aret {post : Option Value → Heap → Prop} {a : Nat} {n : String} (hF : FX X p s m meth c cc nL (some (.object n)) own) (hS : va_S A s.heap H locs) (hdg : decode cc pc = .ok (.areturn, 1)) (hp : post (some (.ref a)) H) : W p l e R s m args below meth c H locs mc ms (MQ below (qM post A) args s mc ms A) (F0 m pc ls [.ref a]) := by
  obtain ⟨hx, hb, hml, hr, hlk, hown, hG⟩ := hF
  exact W.aret hx hb hr (Or.inl ⟨_, rfl⟩) (Or.inr ⟨_, rfl⟩) (fun t ht _ => ⟨_, rfl, by rw [ht]; exact hp, hS.F ht⟩) hS.2.2 hdg hlk
end
theorem nn_d : ∀ n, n < 37 → vf_n64 (FP.ddiv (FP.i2d (nI n)) 4616189618054758400) := by unfold vf_n64; decide +kernel
theorem nn_f : ∀ n, n < 9 → ∀ k, k < 9 → 0 < n → k ≤ n → vf_n32 (FP.fdiv (FP.i2f (nI n - nI k)) (FP.i2f (nI n))) := by unfold vf_n32; decide +kernel
theorem sI_cl {k : Sk} (h : Okc k) : sI (k.1 4) 4 = nI (cl k 0 + cl k 1 + cl k 2 + cl k 3) ∧ cl k 0 + cl k 1 + cl k 2 + cl k 3 < 37 := by
  have h0 := h 0 (by decide)
  have h1 := h 1 (by decide)
  have h2 := h 2 (by decide)
  have h3 := h 3 (by decide)
  refine ⟨?_, by omega⟩
  show 0 + k.1 4 0 + k.1 4 1 + k.1 4 2 + k.1 4 3 = _
  rw [h0.1, h1.1, h2.1, h3.1]
  rw [Int32.zero_add, nI_add, nI_add, nI_add]

set_option maxHeartbeats 4000000 in
set_option maxRecDepth 100000 in
theorem m_X3_told_0 {X : Cx} {l : Launch} (h0 : Init X) {ow : Nat → Nat} {t a : Nat} {E : Nat → Int32} : PM X l yX3_told cX3_told 3 (some .int) 0 0 [.ref a, .int 0, .int 0] (Tw X ow t (reW a E)) (.int (E 0)) := by
  refine Met.mk (Bh := (Tw X ow t (reW a E))) (by decide) (Nat.le_of_ble_eq_true rfl) ?_
  intro p e s m below meth c ls hF hB hl
  have hl : lv_has ls 3 [(0, .ref a), (1, .int 0), (2, .int 0)] := hl
  obtain ⟨hx, hb, hml, hr, hlk, hown, hG⟩ := id hF
  have hK := hG.K h0
  have hS : va_S noA s.heap s.heap [] := va_S.rf
  refine lv_iload_n hx hb dX3_told_0 rfl (lv_at hl 1 rfl) ?_
  refine lv_lookup (x := 0) (off := 27) (tgt := 28) hx hb dX3_told_1 (by decide) (by decide) (by decide) ?_
  refine lv_iload_n hx hb dX3_told_28 rfl (lv_at hl 2 rfl) ?_
  refine lv_if_eq (tgt := 39) hx hb dX3_told_29 (by decide) (fun c_29 => ?_) (fun c_29 => absurd c_29 (by decide))
  refine lv_aload_n hx hb dX3_told_39 rfl (lv_at hl 0 rfl) ?_
  refine g_get (ci := 2) (v := .int (E 0)) h0 hF inX3 hB.1 0 rfl rfl 0 (by decide) wf_X3_9 rfl rfl dX3_told_40 ?_
  exact pm_iret hF dX3_told_43 (rfl)

set_option maxHeartbeats 4000000 in
set_option maxRecDepth 100000 in
theorem m_X3_told_1 {X : Cx} {l : Launch} (h0 : Init X) {ow : Nat → Nat} {t a : Nat} {E : Nat → Int32} : PM X l yX3_told cX3_told 3 (some .int) 0 0 [.ref a, .int 0, .int 1] (Tw X ow t (reW a E)) (.int (E 1)) := by
  refine Met.mk (Bh := (Tw X ow t (reW a E))) (by decide) (Nat.le_of_ble_eq_true rfl) ?_
  intro p e s m below meth c ls hF hB hl
  have hl : lv_has ls 3 [(0, .ref a), (1, .int 0), (2, .int 1)] := hl
  obtain ⟨hx, hb, hml, hr, hlk, hown, hG⟩ := id hF
  have hK := hG.K h0
  have hS : va_S noA s.heap s.heap [] := va_S.rf
  refine lv_iload_n hx hb dX3_told_0 rfl (lv_at hl 1 rfl) ?_
  refine lv_lookup (x := 0) (off := 27) (tgt := 28) hx hb dX3_told_1 (by decide) (by decide) (by decide) ?_
  refine lv_iload_n hx hb dX3_told_28 rfl (lv_at hl 2 rfl) ?_
  refine lv_if_eq (tgt := 39) hx hb dX3_told_29 (by decide) (fun c_29 => absurd c_29 (by decide)) (fun c_29 => ?_)
  refine lv_aload_n hx hb dX3_told_32 rfl (lv_at hl 0 rfl) ?_
  refine g_get (ci := 2) (v := .int (E 1)) h0 hF inX3 hB.1 0 rfl rfl 1 (by decide) wf_X3_15 rfl rfl dX3_told_33 ?_
  refine lv_goto (tgt := 43) hx hb dX3_told_36 (by decide) ?_
  exact pm_iret hF dX3_told_43 (rfl)

set_option maxHeartbeats 4000000 in
set_option maxRecDepth 100000 in
theorem m_X3_told_2 {X : Cx} {l : Launch} (h0 : Init X) {ow : Nat → Nat} {t a : Nat} {E : Nat → Int32} : PM X l yX3_told cX3_told 3 (some .int) 0 0 [.ref a, .int 1, .int 0] (Tw X ow t (reW a E)) (.int (E 2)) := by
  refine Met.mk (Bh := (Tw X ow t (reW a E))) (by decide) (Nat.le_of_ble_eq_true rfl) ?_
  intro p e s m below meth c ls hF hB hl
  have hl : lv_has ls 3 [(0, .ref a), (1, .int 1), (2, .int 0)] := hl
  obtain ⟨hx, hb, hml, hr, hlk, hown, hG⟩ := id hF
  have hK := hG.K h0
  have hS : va_S noA s.heap s.heap [] := va_S.rf
  refine lv_iload_n hx hb dX3_told_0 rfl (lv_at hl 1 rfl) ?_
  refine lv_lookup (x := 1) (off := 43) (tgt := 44) hx hb dX3_told_1 (by decide) (by decide) (by decide) ?_
  refine lv_iload_n hx hb dX3_told_44 rfl (lv_at hl 2 rfl) ?_
  refine lv_if_eq (tgt := 55) hx hb dX3_told_45 (by decide) (fun c_45 => ?_) (fun c_45 => absurd c_45 (by decide))
  refine lv_aload_n hx hb dX3_told_55 rfl (lv_at hl 0 rfl) ?_
  refine g_get (ci := 2) (v := .int (E 2)) h0 hF inX3 hB.1 0 rfl rfl 2 (by decide) wf_X3_18 rfl rfl dX3_told_56 ?_
  exact pm_iret hF dX3_told_59 (rfl)

set_option maxHeartbeats 4000000 in
set_option maxRecDepth 100000 in
theorem m_X3_told_3 {X : Cx} {l : Launch} (h0 : Init X) {ow : Nat → Nat} {t a : Nat} {E : Nat → Int32} : PM X l yX3_told cX3_told 3 (some .int) 0 0 [.ref a, .int 1, .int 1] (Tw X ow t (reW a E)) (.int (E 3)) := by
  refine Met.mk (Bh := (Tw X ow t (reW a E))) (by decide) (Nat.le_of_ble_eq_true rfl) ?_
  intro p e s m below meth c ls hF hB hl
  have hl : lv_has ls 3 [(0, .ref a), (1, .int 1), (2, .int 1)] := hl
  obtain ⟨hx, hb, hml, hr, hlk, hown, hG⟩ := id hF
  have hK := hG.K h0
  have hS : va_S noA s.heap s.heap [] := va_S.rf
  refine lv_iload_n hx hb dX3_told_0 rfl (lv_at hl 1 rfl) ?_
  refine lv_lookup (x := 1) (off := 43) (tgt := 44) hx hb dX3_told_1 (by decide) (by decide) (by decide) ?_
  refine lv_iload_n hx hb dX3_told_44 rfl (lv_at hl 2 rfl) ?_
  refine lv_if_eq (tgt := 55) hx hb dX3_told_45 (by decide) (fun c_45 => absurd c_45 (by decide)) (fun c_45 => ?_)
  refine lv_aload_n hx hb dX3_told_48 rfl (lv_at hl 0 rfl) ?_
  refine g_get (ci := 2) (v := .int (E 3)) h0 hF inX3 hB.1 0 rfl rfl 3 (by decide) wf_X3_21 rfl rfl dX3_told_49 ?_
  refine lv_goto (tgt := 59) hx hb dX3_told_52 (by decide) ?_
  exact pm_iret hF dX3_told_59 (rfl)

set_option maxHeartbeats 4000000 in
set_option maxRecDepth 100000 in
theorem m_X9_reason_0 {X : Cx} {l : Launch} (h0 : Init X) {cm : Nat → Nat} {o : Nat} {σ : Sb}  : PM X l yX9_reason cX9_reason 3 (some .int) 1 22 [.ref o, .int 0, .int 0] (SBH X cm o σ) (.int (σ.2.2.2.2.1 0)) := by
  refine Met.mk (Bh := (SBH X cm o σ)) (by decide) (Nat.le_of_ble_eq_true rfl) ?_
  intro p e s m below meth c ls hF hB hl
  obtain ⟨ow, f, g, hsb⟩ := id hB
  obtain ⟨hz, hob, hsk, hpa, hre, ⟨cw, ew, nu, hcw, hwo⟩, hin, ⟨ln, lc, hln, hli⟩, hi60⟩ := id hsb
  have hs0 := hsk 0 (by decide)
  have hl : lv_has ls 3 [(0, .ref o), (1, .int 0), (2, .int 0)] := hl
  obtain ⟨hx, hb, hml, hr, hlk, hown, hG⟩ := id hF
  have hK := hG.K h0
  have hS : va_S noA s.heap s.heap [] := va_S.rf
  refine lv_aload_n hx hb dX9_reason_0 rfl (lv_at hl 0 rfl) ?_
  refine g_get (ci := 8) (v := .ref (g 1)) h0 hF inX9 hob.1 0 rfl rfl 3 (by decide) wf_X9_29 rfl rfl dX9_reason_1 ?_
  refine lv_iload_n hx hb dX9_reason_4 rfl (lv_at hl 1 rfl) ?_
  refine lv_iload_n hx hb dX9_reason_5 rfl (lv_at hl 2 rfl) ?_
  refine core_p (v := .int (σ.2.2.2.2.1 0)) (grV (n := 2) (As := [.int 0, .int 0]) (rest := []) h0 hF (m_X3_told_0 h0 (ow := ow) (t := 22) (a := g 1) (E := σ.2.2.2.2.1)) wm_X9_131 wo_X3_told ws_X3__X3_told wz_X3 wc_X3_told ⟨by decide, by decide, by decide +kernel⟩ rfl ⟨Nat.le_of_ble_eq_true rfl, Nat.le_of_ble_eq_true rfl⟩ (ci := 2) ⟨_, hre.1 0 _ rfl⟩ rfl hre hS noA_old ⟨Nat.zero_le _, Nat.zero_le _⟩ hl.1 rfl (Nat.le_of_ble_eq_true rfl) dX9_reason_6) ?_
  exact pm_iret hF dX9_reason_9 (rfl)

set_option maxHeartbeats 4000000 in
set_option maxRecDepth 100000 in
theorem m_X9_reason_1 {X : Cx} {l : Launch} (h0 : Init X) {cm : Nat → Nat} {o : Nat} {σ : Sb}  : PM X l yX9_reason cX9_reason 3 (some .int) 1 22 [.ref o, .int 0, .int 1] (SBH X cm o σ) (.int (σ.2.2.2.2.1 1)) := by
  refine Met.mk (Bh := (SBH X cm o σ)) (by decide) (Nat.le_of_ble_eq_true rfl) ?_
  intro p e s m below meth c ls hF hB hl
  obtain ⟨ow, f, g, hsb⟩ := id hB
  obtain ⟨hz, hob, hsk, hpa, hre, ⟨cw, ew, nu, hcw, hwo⟩, hin, ⟨ln, lc, hln, hli⟩, hi60⟩ := id hsb
  have hs0 := hsk 0 (by decide)
  have hl : lv_has ls 3 [(0, .ref o), (1, .int 0), (2, .int 1)] := hl
  obtain ⟨hx, hb, hml, hr, hlk, hown, hG⟩ := id hF
  have hK := hG.K h0
  have hS : va_S noA s.heap s.heap [] := va_S.rf
  refine lv_aload_n hx hb dX9_reason_0 rfl (lv_at hl 0 rfl) ?_
  refine g_get (ci := 8) (v := .ref (g 1)) h0 hF inX9 hob.1 0 rfl rfl 3 (by decide) wf_X9_29 rfl rfl dX9_reason_1 ?_
  refine lv_iload_n hx hb dX9_reason_4 rfl (lv_at hl 1 rfl) ?_
  refine lv_iload_n hx hb dX9_reason_5 rfl (lv_at hl 2 rfl) ?_
  refine core_p (v := .int (σ.2.2.2.2.1 1)) (grV (n := 2) (As := [.int 0, .int 1]) (rest := []) h0 hF (m_X3_told_1 h0 (ow := ow) (t := 22) (a := g 1) (E := σ.2.2.2.2.1)) wm_X9_131 wo_X3_told ws_X3__X3_told wz_X3 wc_X3_told ⟨by decide, by decide, by decide +kernel⟩ rfl ⟨Nat.le_of_ble_eq_true rfl, Nat.le_of_ble_eq_true rfl⟩ (ci := 2) ⟨_, hre.1 0 _ rfl⟩ rfl hre hS noA_old ⟨Nat.zero_le _, Nat.zero_le _⟩ hl.1 rfl (Nat.le_of_ble_eq_true rfl) dX9_reason_6) ?_
  exact pm_iret hF dX9_reason_9 (rfl)

set_option maxHeartbeats 4000000 in
set_option maxRecDepth 100000 in
theorem m_X9_reason_2 {X : Cx} {l : Launch} (h0 : Init X) {cm : Nat → Nat} {o : Nat} {σ : Sb}  : PM X l yX9_reason cX9_reason 3 (some .int) 1 22 [.ref o, .int 1, .int 0] (SBH X cm o σ) (.int (σ.2.2.2.2.1 2)) := by
  refine Met.mk (Bh := (SBH X cm o σ)) (by decide) (Nat.le_of_ble_eq_true rfl) ?_
  intro p e s m below meth c ls hF hB hl
  obtain ⟨ow, f, g, hsb⟩ := id hB
  obtain ⟨hz, hob, hsk, hpa, hre, ⟨cw, ew, nu, hcw, hwo⟩, hin, ⟨ln, lc, hln, hli⟩, hi60⟩ := id hsb
  have hs0 := hsk 0 (by decide)
  have hl : lv_has ls 3 [(0, .ref o), (1, .int 1), (2, .int 0)] := hl
  obtain ⟨hx, hb, hml, hr, hlk, hown, hG⟩ := id hF
  have hK := hG.K h0
  have hS : va_S noA s.heap s.heap [] := va_S.rf
  refine lv_aload_n hx hb dX9_reason_0 rfl (lv_at hl 0 rfl) ?_
  refine g_get (ci := 8) (v := .ref (g 1)) h0 hF inX9 hob.1 0 rfl rfl 3 (by decide) wf_X9_29 rfl rfl dX9_reason_1 ?_
  refine lv_iload_n hx hb dX9_reason_4 rfl (lv_at hl 1 rfl) ?_
  refine lv_iload_n hx hb dX9_reason_5 rfl (lv_at hl 2 rfl) ?_
  refine core_p (v := .int (σ.2.2.2.2.1 2)) (grV (n := 2) (As := [.int 1, .int 0]) (rest := []) h0 hF (m_X3_told_2 h0 (ow := ow) (t := 22) (a := g 1) (E := σ.2.2.2.2.1)) wm_X9_131 wo_X3_told ws_X3__X3_told wz_X3 wc_X3_told ⟨by decide, by decide, by decide +kernel⟩ rfl ⟨Nat.le_of_ble_eq_true rfl, Nat.le_of_ble_eq_true rfl⟩ (ci := 2) ⟨_, hre.1 0 _ rfl⟩ rfl hre hS noA_old ⟨Nat.zero_le _, Nat.zero_le _⟩ hl.1 rfl (Nat.le_of_ble_eq_true rfl) dX9_reason_6) ?_
  exact pm_iret hF dX9_reason_9 (rfl)

set_option maxHeartbeats 4000000 in
set_option maxRecDepth 100000 in
theorem m_X9_meanCloud {X : Cx} {l : Launch} (h0 : Init X) {cm : Nat → Nat} {o : Nat} {σ : Sb} (hC : Okc σ.1) : PM X l yX9_meanCloud cX9_meanCloud 1 (some .double) 1 23 [.ref o] (SBH X cm o σ) (.double (FP.ddiv (FP.i2d (sI (σ.1.1 4) 4)) 4616189618054758400)) := by
  refine Met.mk (Bh := (SBH X cm o σ)) (by decide) (Nat.le_of_ble_eq_true rfl) ?_
  intro p e s m below meth c ls hF hB hl
  obtain ⟨ow, f, g, hsb⟩ := id hB
  obtain ⟨hz, hob, hsk, hpa, hre, ⟨cw, ew, nu, hcw, hwo⟩, hin, ⟨ln, lc, hln, hli⟩, hi60⟩ := id hsb
  have hs0 := hsk 0 (by decide)
  have hl : lv_has ls 1 [(0, .ref o)] := hl
  obtain ⟨hx, hb, hml, hr, hlk, hown, hG⟩ := id hF
  have hK := hG.K h0
  have hS : va_S noA s.heap s.heap [] := va_S.rf
  refine lv_aload_n hx hb dX9_meanCloud_0 rfl (lv_at hl 0 rfl) ?_
  refine g_get (ci := 8) (v := .ref (f 0 0)) h0 hF inX9 hob.1 0 rfl rfl 0 (by decide) wf_X9_12 rfl rfl dX9_meanCloud_1 ?_
  refine g_get (ci := 4) (v := .ref (f 0 1)) h0 hF inX5 hs0.1 0 rfl rfl 0 (by decide) wf_X9_54 rfl rfl dX9_meanCloud_4 ?_
  refine g_get (ci := 5) (v := .ref (f 0 8)) h0 hF inX6 hs0.1 1 rfl rfl 5 (by decide) wf_X9_229 rfl rfl dX9_meanCloud_7 ?_
  refine lv_iconst (v := 4) hx hb dX9_meanCloud_10 (by decide) ?_
  refine core_p (v := .int (sI (σ.1.1 4) 4)) (grS (n := 2) (As := [.ref (f 0 8), .int 4]) (rest := []) h0 hF (m_X9_sum h0 (a := f 0 8) (N := 4) (F := σ.1.1 4) 4 (by omega) (by omega) ) wm_X9_305 wt_X9_sum wz_X9 wc_X9_sum ⟨by decide, by decide, by decide +kernel⟩ rfl ⟨Nat.le_of_ble_eq_true rfl, Nat.le_of_ble_eq_true rfl⟩ (hs0.1.sub [8] rfl) hS noA_old ⟨Nat.zero_le _, Nat.zero_le _⟩ hl.1 rfl (Nat.le_of_ble_eq_true rfl) dX9_meanCloud_11) ?_
  refine lv_i2d hx hb dX9_meanCloud_14 ?_
  refine lv_ldc2d hx hb hown (hG.hts h0 _ _ wnd_X9_309) dX9_meanCloud_15 ?_
  refine lv_ddiv hx hb dX9_meanCloud_18 (by have h := sI_cl hC; rw [h.1]; exact nn_d _ h.2) ?_
  exact pm_dret hF dX9_meanCloud_19 (rfl)

set_option maxHeartbeats 4000000 in
set_option maxRecDepth 100000 in
theorem m_X9_poundShare_0 {X : Cx} {l : Launch} (h0 : Init X) {cm : Nat → Nat} {o : Nat} {σ : Sb} (hn : σ.1.2 2 = 0) : PM X l yX9_poundShare cX9_poundShare 1 (some .float) 0 0 [.ref o] (SBH X cm o σ) (.float FP.fconst0) := by
  refine Met.mk (Bh := (SBH X cm o σ)) (by decide) (Nat.le_of_ble_eq_true rfl) ?_
  intro p e s m below meth c ls hF hB hl
  obtain ⟨ow, f, g, hsb⟩ := id hB
  obtain ⟨hz, hob, hsk, hpa, hre, ⟨cw, ew, nu, hcw, hwo⟩, hin, ⟨ln, lc, hln, hli⟩, hi60⟩ := id hsb
  have hs0 := hsk 0 (by decide)
  have hl : lv_has ls 1 [(0, .ref o)] := hl
  obtain ⟨hx, hb, hml, hr, hlk, hown, hG⟩ := id hF
  have hK := hG.K h0
  have hS : va_S noA s.heap s.heap [] := va_S.rf
  refine lv_aload_n hx hb dX9_poundShare_0 rfl (lv_at hl 0 rfl) ?_
  refine g_get (ci := 8) (v := .ref (f 0 0)) h0 hF inX9 hob.1 0 rfl rfl 0 (by decide) wf_X9_12 rfl rfl dX9_poundShare_1 ?_
  refine g_get (ci := 4) (v := .ref (f 0 3)) h0 hF inX5 hs0.1 0 rfl rfl 2 (by decide) wf_X9_155 rfl rfl dX9_poundShare_4 ?_
  refine g_get (ci := 6) (v := .int (nI (σ.1.2 2))) h0 hF inX7 hs0.1 3 rfl rfl 0 (by decide) wf_X9_311 rfl rfl dX9_poundShare_7 ?_
  refine lv_if_ne (tgt := 15) hx hb dX9_poundShare_10 (by decide) (fun c_10 => absurd (by rw [hn]; rfl) c_10) (fun c_10 => ?_)
  refine lv_fconst0 hx hb dX9_poundShare_13 ?_
  exact pm_fret hF dX9_poundShare_14 (rfl)

set_option maxHeartbeats 4000000 in
set_option maxRecDepth 100000 in
theorem m_X9_poundShare_1 {X : Cx} {l : Launch} (h0 : Init X) {cm : Nat → Nat} {o : Nat} {σ : Sb} (hO : Ok σ.1) (hn : 0 < σ.1.2 2) : PM X l yX9_poundShare cX9_poundShare 1 (some .float) 2 44 [.ref o] (SBH X cm o σ) (.float (FP.fdiv (FP.i2f (nI (σ.1.2 2) - nI (cN (fun z => decide (σ.1.1 18 z = -4)) (σ.1.2 2)))) (FP.i2f (nI (σ.1.2 2))))) := by
  refine Met.mk (Bh := (SBH X cm o σ)) (by decide) (Nat.le_of_ble_eq_true rfl) ?_
  intro p e s m below meth c ls hF hB hl
  obtain ⟨ow, f, g, hsb⟩ := id hB
  obtain ⟨hz, hob, hsk, hpa, hre, ⟨cw, ew, nu, hcw, hwo⟩, hin, ⟨ln, lc, hln, hli⟩, hi60⟩ := id hsb
  have hs0 := hsk 0 (by decide)
  have hl : lv_has ls 1 [(0, .ref o)] := hl
  obtain ⟨hx, hb, hml, hr, hlk, hown, hG⟩ := id hF
  have hK := hG.K h0
  have hS : va_S noA s.heap s.heap [] := va_S.rf
  have hO1 := hO.1
  have hO2 := hO.2.1
  have hO3 := hO.2.2.1
  refine lv_aload_n hx hb dX9_poundShare_0 rfl (lv_at hl 0 rfl) ?_
  refine g_get (ci := 8) (v := .ref (f 0 0)) h0 hF inX9 hob.1 0 rfl rfl 0 (by decide) wf_X9_12 rfl rfl dX9_poundShare_1 ?_
  refine g_get (ci := 4) (v := .ref (f 0 3)) h0 hF inX5 hs0.1 0 rfl rfl 2 (by decide) wf_X9_155 rfl rfl dX9_poundShare_4 ?_
  refine g_get (ci := 6) (v := .int (nI (σ.1.2 2))) h0 hF inX7 hs0.1 3 rfl rfl 0 (by decide) wf_X9_311 rfl rfl dX9_poundShare_7 ?_
  refine lv_if_ne (tgt := 15) hx hb dX9_poundShare_10 (by decide) (fun c_10 => ?_) (fun c_10 => absurd c_10 (fun h => by have := (nI_eq (a := σ.1.2 2) (b := 0) (by omega) (by decide)).mp h; omega))
  refine lv_aload_n hx hb dX9_poundShare_15 rfl (lv_at hl 0 rfl) ?_
  refine g_get (ci := 8) (v := .ref (f 0 0)) h0 hF inX9 hob.1 0 rfl rfl 0 (by decide) wf_X9_12 rfl rfl dX9_poundShare_16 ?_
  refine g_get (ci := 4) (v := .ref (f 0 3)) h0 hF inX5 hs0.1 0 rfl rfl 2 (by decide) wf_X9_155 rfl rfl dX9_poundShare_19 ?_
  refine core_p (v := .int (nI (σ.1.2 2) - nI (cN (fun z => decide (σ.1.1 18 z = -4)) (σ.1.2 2)))) (grV (n := 0) (As := []) (rest := []) h0 hF (m_X7_countImpounded h0 (f := f 0) (k := σ.1) hO  ) wm_X9_312 wo_X7_countImpounded ws_X7__X7_countImpounded wz_X7 wc_X7_countImpounded ⟨by decide, by decide, by decide +kernel⟩ rfl ⟨Nat.le_of_ble_eq_true rfl, Nat.le_of_ble_eq_true rfl⟩ (ci := 6) ⟨_, hs0.1 3 _ rfl⟩ rfl hs0.1 hS noA_old ⟨Nat.zero_le _, Nat.zero_le _⟩ hl.1 rfl (Nat.le_of_ble_eq_true rfl) dX9_poundShare_22) ?_
  refine lv_i2f hx hb dX9_poundShare_25 ?_
  refine lv_aload_n hx hb dX9_poundShare_26 rfl (lv_at hl 0 rfl) ?_
  refine g_get (ci := 8) (v := .ref (f 0 0)) h0 hF inX9 hob.1 0 rfl rfl 0 (by decide) wf_X9_12 rfl rfl dX9_poundShare_27 ?_
  refine g_get (ci := 4) (v := .ref (f 0 3)) h0 hF inX5 hs0.1 0 rfl rfl 2 (by decide) wf_X9_155 rfl rfl dX9_poundShare_30 ?_
  refine g_get (ci := 6) (v := .int (nI (σ.1.2 2))) h0 hF inX7 hs0.1 3 rfl rfl 0 (by decide) wf_X9_311 rfl rfl dX9_poundShare_33 ?_
  refine lv_i2f hx hb dX9_poundShare_36 ?_
  refine lv_fdiv hx hb dX9_poundShare_37 (nn_f _ (by omega) _ (by have := cN_le (fun z => decide (σ.1.1 18 z = -4)) (σ.1.2 2); omega) hn (cN_le _ _)) ?_
  exact pm_fret hF dX9_poundShare_38 (rfl)

set_option maxHeartbeats 4000000 in
set_option maxRecDepth 100000 in
theorem m_X2_takeBack_0 {X : Cx} {l : Launch} (h0 : Init X) {σ : Sb} {ow : Nat → Nat} {f : Nat → Nat → Nat} {g : Nat → Nat} (hn : σ.2.2.2.1 0 = 0) : PM X l yX2_takeBack cX2_takeBack 2 (some .int) 0 0 [.ref (g 0), .ref (f 0 0)] (Tw X ow 21 (paW X f g σ)) (.int (-4)) := by
  refine Met.mk (Bh := (Tw X ow 21 (paW X f g σ))) (by decide) (Nat.le_of_ble_eq_true rfl) ?_
  intro p e s m below meth c ls hF hB hl
  have hpa := hB
  have hl : lv_has ls 2 [(0, .ref (g 0)), (1, .ref (f 0 0))] := hl
  obtain ⟨hx, hb, hml, hr, hlk, hown, hG⟩ := id hF
  have hK := hG.K h0
  have hS : va_S noA s.heap s.heap [] := va_S.rf
  refine lv_aload_n hx hb dX2_takeBack_0 rfl (lv_at hl 0 rfl) ?_
  refine g_get (ci := 1) (v := .int (nI (σ.2.2.2.1 0))) h0 hF inX2 hpa.1 0 rfl rfl 0 (by decide) wf_X2_26 rfl rfl dX2_takeBack_1 ?_
  refine lv_if_ne (tgt := 10) hx hb dX2_takeBack_4 (by decide) (fun c_4 => absurd (by rw [hn]; rfl) c_4) (fun c_4 => ?_)
  refine lv_bipush (v := (-4)) hx hb dX2_takeBack_7 (by decide) ?_
  exact pm_iret hF dX2_takeBack_9 (rfl)

set_option maxHeartbeats 4000000 in
set_option maxRecDepth 100000 in
theorem m_X9_undo_0 {X : Cx} {l : Launch} (h0 : Init X) {cm : Nat → Nat} {o : Nat} {σ : Sb} (hn : σ.2.2.2.1 0 = 0) : PM X l yX9_undo cX9_undo 1 (some .int) 1 21 [.ref o] (SBH X cm o σ) (.int (-4)) := by
  refine Met.mk (Bh := (SBH X cm o σ)) (by decide) (Nat.le_of_ble_eq_true rfl) ?_
  intro p e s m below meth c ls hF hB hl
  obtain ⟨ow, f, g, hsb⟩ := id hB
  obtain ⟨hz, hob, hsk, hpa, hre, ⟨cw, ew, nu, hcw, hwo⟩, hin, ⟨ln, lc, hln, hli⟩, hi60⟩ := id hsb
  have hs0 := hsk 0 (by decide)
  have hl : lv_has ls 1 [(0, .ref o)] := hl
  obtain ⟨hx, hb, hml, hr, hlk, hown, hG⟩ := id hF
  have hK := hG.K h0
  have hS : va_S noA s.heap s.heap [] := va_S.rf
  refine lv_aload_n hx hb dX9_undo_0 rfl (lv_at hl 0 rfl) ?_
  refine g_get (ci := 8) (v := .ref (g 0)) h0 hF inX9 hob.1 0 rfl rfl 2 (by decide) wf_X9_22 rfl rfl dX9_undo_1 ?_
  refine lv_aload_n hx hb dX9_undo_4 rfl (lv_at hl 0 rfl) ?_
  refine g_get (ci := 8) (v := .ref (f 0 0)) h0 hF inX9 hob.1 0 rfl rfl 0 (by decide) wf_X9_12 rfl rfl dX9_undo_5 ?_
  refine core_p (v := .int (-4)) (grV (n := 1) (As := [.ref (f 0 0)]) (rest := []) h0 hF (m_X2_takeBack_0 h0 (ow := ow) (f := f) (g := g) (σ := σ) hn) wm_X9_325 wo_X2_takeBack ws_X2__X2_takeBack wz_X2 wc_X2_takeBack ⟨by decide, by decide, by decide +kernel⟩ rfl ⟨Nat.le_of_ble_eq_true rfl, Nat.le_of_ble_eq_true rfl⟩ (ci := 1) ⟨_, hpa.1 0 _ rfl⟩ rfl hpa hS noA_old ⟨Nat.zero_le _, Nat.zero_le _⟩ hl.1 rfl (Nat.le_of_ble_eq_true rfl) dX9_undo_8) ?_
  exact pm_iret hF dX9_undo_11 (rfl)

theorem undo_skies {X : Cx} {ow : Nat → Nat} {f : Nat → Nat → Nat} {σ : Sb} {H : Heap} {i : Nat} (hn : ((σ.2.2.2.1 1 + 9 - 1) % 9) < 9) (hi : i < 11) (h1 : Tw X ow 0 (skW X (f 0) (σ.2.2.1 ((σ.2.2.2.1 1 + 9 - 1) % 9))) H) (h2 : Tw X ow (2 + ((σ.2.2.2.1 1 + 9 - 1) % 9)) (skW X (f (2 + ((σ.2.2.2.1 1 + 9 - 1) % 9))) (σ.2.2.1 ((σ.2.2.2.1 1 + 9 - 1) % 9))) H) : ((fun t => t = 21 ∨ t = 0 ∨ t = 2 + ((σ.2.2.2.1 1 + 9 - 1) % 9)) i ∧ Tw X ow i (skW X (f i) (sbK (sbBack σ) i)) H) ∨ (¬ (fun t => t = 21 ∨ t = 0 ∨ t = 2 + ((σ.2.2.2.1 1 + 9 - 1) % 9)) i ∧ sbK (sbBack σ) i = sbK σ i) := by
  by_cases h0 : i = 0
  · subst h0; exact Or.inl ⟨Or.inr (Or.inl rfl), h1⟩
  · by_cases h3 : i = 2 + ((σ.2.2.2.1 1 + 9 - 1) % 9)
    · refine Or.inl ⟨Or.inr (Or.inr h3), ?_⟩
      have e : sbK (sbBack σ) (2 + ((σ.2.2.2.1 1 + 9 - 1) % 9)) = σ.2.2.1 ((σ.2.2.2.1 1 + 9 - 1) % 9) := by rw [Nat.add_comm 2]; rfl
      rw [h3, e]
      exact h2
    · refine Or.inr ⟨fun h => by omega, ?_⟩
      match i, h0 with
      | 1, _ => rfl
      | j + 2, _ => rfl

set_option maxHeartbeats 4000000 in
set_option maxRecDepth 100000 in
theorem m_X9_undo {X : Cx} {l : Launch} (h0 : Init X) {cm : Nat → Nat} {o : Nat} {σ : Sb} (hP : Okp σ) (hc : 0 < σ.2.2.2.1 0) : MM X l yX9_undo cX9_undo 1 (some .int) 5 144 0 0 [.ref o] (SBH X cm o σ) (fun v H => v = some (.int (nI (σ.2.2.2.1 0 - 1))) ∧ SBH X cm o (sbBack σ) H) (gA X) := by
  refine Met.mk (Bh := (SBH X cm o σ)) (by decide) (Nat.le_of_ble_eq_true rfl) ?_
  intro p e s m below meth c ls hF hB hl
  have hB0 := hB
  obtain ⟨ow, f, g, hsb⟩ := hB
  obtain ⟨hz, hob, hsk, hpa, hre, ⟨cw, ew, nu, hcw, hwo⟩, hin, ⟨ln, lc, hln, hli⟩, hi60⟩ := id hsb
  have hs0 := hsk 0 (by decide)
  have hP1 := hP.1
  have hP2 := hP.2
  have hN2 : ((σ.2.2.2.1 1 + 9 - 1) % 9) < 9 := Nat.mod_lt _ (by decide)
  have hsn : Tw X ow (2 + ((σ.2.2.2.1 1 + 9 - 1) % 9)) (skW X (f (2 + ((σ.2.2.2.1 1 + 9 - 1) % 9))) (σ.2.2.1 ((σ.2.2.2.1 1 + 9 - 1) % 9))) s.heap := by have := hsk (2 + ((σ.2.2.2.1 1 + 9 - 1) % 9)) (by omega); rw [Nat.add_comm 2 ((σ.2.2.2.1 1 + 9 - 1) % 9)] at this ⊢; exact this
  have hl : lv_has ls 1 [(0, .ref o)] := hl
  obtain ⟨hx, hb, hml, hr, hlk, hown, hG⟩ := id hF
  have hK := hG.K h0
  have hS : va_S (gA X) s.heap s.heap [] := va_S.rf
  have hAo : ∀ q, q < X.z → ¬ gA X q := fun q h9 (h8 : X.z ≤ q) => absurd h8 (by omega)
  refine lv_aload_n hx hb dX9_undo_0 rfl (lv_at hl 0 rfl) ?_
  refine g_get (ci := 8) (v := .ref (g 0)) h0 hF inX9 hob.1 0 rfl rfl 2 (by decide) wf_X9_22 rfl rfl dX9_undo_1 ?_
  refine lv_aload_n hx hb dX9_undo_4 rfl (lv_at hl 0 rfl) ?_
  refine g_get (ci := 8) (v := .ref (f 0 0)) h0 hF inX9 hob.1 0 rfl rfl 0 (by decide) wf_X9_12 rfl rfl dX9_undo_5 ?_
  refine core_m (A1 := fun q => ow q = 21 ∨ ow q = 0 ∨ ow q = 2 + ((σ.2.2.2.1 1 + 9 - 1) % 9)) (grV (Bh := (fun H => Tw X ow 21 (paW X f g σ) H ∧ Tw X ow 0 (skW X (f 0) σ.1) H ∧ Tw X ow (2 + ((σ.2.2.2.1 1 + 9 - 1) % 9)) (skW X (f (2 + ((σ.2.2.2.1 1 + 9 - 1) % 9))) (σ.2.2.1 ((σ.2.2.2.1 1 + 9 - 1) % 9))) H)) (n := 1) (As := [.ref (f 0 0)]) (rest := []) h0 hF (m_X2_takeBack h0 (ow := ow) (f := f) (g := g) (σ := σ) hP hz hc) wm_X9_325 wo_X2_takeBack ws_X2__X2_takeBack wz_X2 wc_X2_takeBack ⟨by decide, by decide, by decide +kernel⟩ rfl ⟨Nat.le_of_ble_eq_true rfl, Nat.le_of_ble_eq_true rfl⟩ (ci := 1) ⟨_, hpa.1 0 _ rfl⟩ rfl ⟨hpa, hs0, hsn⟩ hS hAo ⟨Nat.le_of_ble_eq_true rfl, Nat.le_of_ble_eq_true rfl⟩ hl.1 rfl (Nat.le_of_ble_eq_true rfl) dX9_undo_8) hS (fun q (h8 : ow q = 21 ∨ ow q = 0 ∨ ow q = 2 + ((σ.2.2.2.1 1 + 9 - 1) % 9)) => (show X.z ≤ q from hz q (by omega))) (fun v H locs hq hz1 hk1 hS => ?_)
  obtain ⟨rfl, hpa, hs0, hsn⟩ := hq
  have hob := hob.keep hk1 (fun q h9 (h8 : ow q = 21 ∨ ow q = 0 ∨ ow q = 2 + ((σ.2.2.2.1 1 + 9 - 1) % 9)) => by omega)
  exact mm_iret hF hS dX9_undo_11 (⟨rfl, ow, f, g, hsb.upd (σ' := sbBack σ) (fun t => t = 21 ∨ t = 0 ∨ t = 2 + ((σ.2.2.2.1 1 + 9 - 1) % 9)) hk1 (fun t h => by omega) (fun i hi => undo_skies hN2 hi hs0 hsn) hpa rfl rfl rfl⟩)

set_option maxHeartbeats 4000000 in
set_option maxRecDepth 100000 in
theorem m_X9_save {X : Cx} {l : Launch} (h0 : Init X) {cm : Nat → Nat} {o : Nat} {σ : Sb}  : MM X l yX9_save cX9_save 1 (some .int) 4 123 0 0 [.ref o] (SBH X cm o σ) (fun v H => v = some (.int (nI (σ.1.2 0))) ∧ SBH X cm o (sbSave σ) H) (gA X) := by
  refine Met.mk (Bh := (SBH X cm o σ)) (by decide) (Nat.le_of_ble_eq_true rfl) ?_
  intro p e s m below meth c ls hF hB hl
  have hB0 := hB
  obtain ⟨ow, f, g, hsb⟩ := hB
  obtain ⟨hz, hob, hsk, hpa, hre, ⟨cw, ew, nu, hcw, hwo⟩, hin, ⟨ln, lc, hln, hli⟩, hi60⟩ := id hsb
  have hs0 := hsk 0 (by decide)
  have hs1 : Tw X ow 1 (skW X (f 1) σ.2.1) s.heap := hsk 1 (by decide)
  have hl : lv_has ls 1 [(0, .ref o)] := hl
  obtain ⟨hx, hb, hml, hr, hlk, hown, hG⟩ := id hF
  have hK := hG.K h0
  have hS : va_S (gA X) s.heap s.heap [] := va_S.rf
  have hAo : ∀ q, q < X.z → ¬ gA X q := fun q h9 (h8 : X.z ≤ q) => absurd h8 (by omega)
  refine lv_aload_n hx hb dX9_save_0 rfl (lv_at hl 0 rfl) ?_
  refine g_get (ci := 8) (v := .ref (f 1 0)) h0 hF inX9 hob.1 0 rfl rfl 1 (by decide) wf_X9_16 rfl rfl dX9_save_1 ?_
  refine lv_aload_n hx hb dX9_save_4 rfl (lv_at hl 0 rfl) ?_
  refine g_get (ci := 8) (v := .ref (f 0 0)) h0 hF inX9 hob.1 0 rfl rfl 0 (by decide) wf_X9_12 rfl rfl dX9_save_5 ?_
  refine core_m (A1 := fun q => ow q = 1 ∨ ow q = 0) (grV (Bh := (fun H => Tw X ow 1 (skW X (f 1) σ.2.1) H ∧ Tw X ow 0 (skW X (f 0) σ.1) H)) (n := 1) (As := [.ref (f 0 0)]) (rest := []) h0 hF (m_X5_copyFrom h0 (ow := ow) (t := 1) (u := 0) (f := (f 1)) (g := (f 0)) (k := σ.2.1) (q := σ.1) (by decide) (fun q h9 => hz q (by omega))) wm_X9_329 wo_X5_copyFrom ws_X5__X5_copyFrom wz_X5 wc_X5_copyFrom ⟨by decide, by decide, by decide +kernel⟩ rfl ⟨Nat.le_of_ble_eq_true rfl, Nat.le_of_ble_eq_true rfl⟩ (ci := 4) ⟨_, hs1.1 0 _ rfl⟩ rfl ⟨hs1, hs0⟩ hS hAo ⟨Nat.le_of_ble_eq_true rfl, Nat.le_of_ble_eq_true rfl⟩ hl.1 rfl (Nat.le_of_ble_eq_true rfl) dX9_save_8) hS (fun q (h8 : ow q = 1 ∨ ow q = 0) => (show X.z ≤ q from hz q (by omega))) (fun v H locs hq hz1 hk1 hS => ?_)
  obtain ⟨rfl, hs1, hs0⟩ := hq
  have hob := hob.keep hk1 (fun q h9 (h8 : ow q = 1 ∨ ow q = 0) => by omega)
  have hs1 : Tw X ow 1 (skW X (f 1) σ.1) H := hs1
  have hsb1 := hsb.sky (a := 1) (b := 0) (q := σ.1) (by decide) (by decide) hk1 hs1 hs0
  refine lv_aload_n hx hb dX9_save_11 rfl (lv_at hl 0 rfl) ?_
  refine lv_iconst (v := 1) hx hb dX9_save_12 (by decide) ?_
  have htg := hob.tag 0 rfl
  refine g_put (ci := 8) h0 hF inX9 tyX9 tyX9_ok nmX9 hob hS (hz _ (by rw [htg]; decide)) 0 rfl rfl 7 (by decide) wf_X9_333 rfl rfl (tyX9_ok 7 (by decide)) rfl rfl (Nat.le_of_ble_eq_true rfl) dX9_save_13 (fun H locs oq hob' hS => ?_)
  have hs0 := hs0.fr1 oq (by rw [htg]; omega)
  have hs1 := hs1.fr1 oq (by rw [htg]; omega)
  have hob : Tw X ow 20 (obW o f g (sbN σ 2 1)) H := hob'
  have hsb2 := hsb1.ob (σ' := sbSave σ) oq hob rfl rfl (funext fun n => (if_neg (by omega)).symm) rfl rfl rfl (fun _ _ => rfl) rfl
  refine lv_aload_n hx hb dX9_save_16 rfl (lv_at hl 0 rfl) ?_
  refine g_get (ci := 8) (v := .ref (f 0 0)) h0 hF inX9 hob.1 0 rfl rfl 0 (by decide) wf_X9_12 rfl rfl dX9_save_17 ?_
  refine g_get (ci := 4) (v := .ref (f 0 1)) h0 hF inX5 hs0.1 0 rfl rfl 0 (by decide) wf_X9_54 rfl rfl dX9_save_20 ?_
  refine g_get (ci := 5) (v := .int (nI (σ.1.2 0))) h0 hF inX6 hs0.1 1 rfl rfl 0 (by decide) wf_X9_58 rfl rfl dX9_save_23 ?_
  exact mm_iret hF hS dX9_save_26 (⟨rfl, ow, f, g, hsb2⟩)

set_option maxHeartbeats 4000000 in
set_option maxRecDepth 100000 in
theorem m_X9_restore_0 {X : Cx} {l : Launch} (h0 : Init X) {cm : Nat → Nat} {o : Nat} {σ : Sb} (hn : σ.2.2.2.1 2 = 0) : PM X l yX9_restore cX9_restore 1 (some .int) 0 0 [.ref o] (SBH X cm o σ) (.int (-4)) := by
  refine Met.mk (Bh := (SBH X cm o σ)) (by decide) (Nat.le_of_ble_eq_true rfl) ?_
  intro p e s m below meth c ls hF hB hl
  obtain ⟨ow, f, g, hsb⟩ := id hB
  obtain ⟨hz, hob, hsk, hpa, hre, ⟨cw, ew, nu, hcw, hwo⟩, hin, ⟨ln, lc, hln, hli⟩, hi60⟩ := id hsb
  have hs0 := hsk 0 (by decide)
  have hl : lv_has ls 1 [(0, .ref o)] := hl
  obtain ⟨hx, hb, hml, hr, hlk, hown, hG⟩ := id hF
  have hK := hG.K h0
  have hS : va_S noA s.heap s.heap [] := va_S.rf
  refine lv_aload_n hx hb dX9_restore_0 rfl (lv_at hl 0 rfl) ?_
  refine g_get (ci := 8) (v := .int (nI (σ.2.2.2.1 2))) h0 hF inX9 hob.1 0 rfl rfl 7 (by decide) wf_X9_333 rfl rfl dX9_restore_1 ?_
  refine lv_if_ne (tgt := 10) hx hb dX9_restore_4 (by decide) (fun c_4 => absurd (by rw [hn]; rfl) c_4) (fun c_4 => ?_)
  refine lv_bipush (v := (-4)) hx hb dX9_restore_7 (by decide) ?_
  exact pm_iret hF dX9_restore_9 (rfl)

set_option maxHeartbeats 4000000 in
set_option maxRecDepth 100000 in
theorem m_X9_restore {X : Cx} {l : Launch} (h0 : Init X) {cm : Nat → Nat} {o : Nat} {σ : Sb} (hP : Okp σ) (hn : σ.2.2.2.1 2 = 1) : MM X l yX9_restore cX9_restore 1 (some .int) 4 123 0 0 [.ref o] (SBH X cm o σ) (fun v H => v = some (.int (nI (σ.2.1.2 0))) ∧ SBH X cm o (sbRest σ) H) (gA X) := by
  refine Met.mk (Bh := (SBH X cm o σ)) (by decide) (Nat.le_of_ble_eq_true rfl) ?_
  intro p e s m below meth c ls hF hB hl
  have hB0 := hB
  obtain ⟨ow, f, g, hsb⟩ := hB
  obtain ⟨hz, hob, hsk, hpa, hre, ⟨cw, ew, nu, hcw, hwo⟩, hin, ⟨ln, lc, hln, hli⟩, hi60⟩ := id hsb
  have hs0 := hsk 0 (by decide)
  have hs1 : Tw X ow 1 (skW X (f 1) σ.2.1) s.heap := hsk 1 (by decide)
  have hl : lv_has ls 1 [(0, .ref o)] := hl
  obtain ⟨hx, hb, hml, hr, hlk, hown, hG⟩ := id hF
  have hK := hG.K h0
  have hS : va_S (gA X) s.heap s.heap [] := va_S.rf
  have hAo : ∀ q, q < X.z → ¬ gA X q := fun q h9 (h8 : X.z ≤ q) => absurd h8 (by omega)
  refine lv_aload_n hx hb dX9_restore_0 rfl (lv_at hl 0 rfl) ?_
  refine g_get (ci := 8) (v := .int (nI (σ.2.2.2.1 2))) h0 hF inX9 hob.1 0 rfl rfl 7 (by decide) wf_X9_333 rfl rfl dX9_restore_1 ?_
  refine lv_if_ne (tgt := 10) hx hb dX9_restore_4 (by decide) (fun c_4 => ?_) (fun c_4 => absurd c_4 (by rw [hn]; decide))
  refine lv_aload_n hx hb dX9_restore_10 rfl (lv_at hl 0 rfl) ?_
  refine g_get (ci := 8) (v := .ref (f 0 0)) h0 hF inX9 hob.1 0 rfl rfl 0 (by decide) wf_X9_12 rfl rfl dX9_restore_11 ?_
  refine lv_aload_n hx hb dX9_restore_14 rfl (lv_at hl 0 rfl) ?_
  refine g_get (ci := 8) (v := .ref (f 1 0)) h0 hF inX9 hob.1 0 rfl rfl 1 (by decide) wf_X9_16 rfl rfl dX9_restore_15 ?_
  refine core_m (A1 := fun q => ow q = 0 ∨ ow q = 1) (grV (Bh := (fun H => Tw X ow 0 (skW X (f 0) σ.1) H ∧ Tw X ow 1 (skW X (f 1) σ.2.1) H)) (n := 1) (As := [.ref (f 1 0)]) (rest := []) h0 hF (m_X5_copyFrom h0 (ow := ow) (t := 0) (u := 1) (f := (f 0)) (g := (f 1)) (k := σ.1) (q := σ.2.1) (by decide) (fun q h9 => hz q (by omega))) wm_X9_329 wo_X5_copyFrom ws_X5__X5_copyFrom wz_X5 wc_X5_copyFrom ⟨by decide, by decide, by decide +kernel⟩ rfl ⟨Nat.le_of_ble_eq_true rfl, Nat.le_of_ble_eq_true rfl⟩ (ci := 4) ⟨_, hs0.1 0 _ rfl⟩ rfl ⟨hs0, hs1⟩ hS hAo ⟨Nat.le_of_ble_eq_true rfl, Nat.le_of_ble_eq_true rfl⟩ hl.1 rfl (Nat.le_of_ble_eq_true rfl) dX9_restore_18) hS (fun q (h8 : ow q = 0 ∨ ow q = 1) => (show X.z ≤ q from hz q (by omega))) (fun v H locs hq hz1 hk1 hS => ?_)
  obtain ⟨rfl, hs0, hs1⟩ := hq
  have hob := hob.keep hk1 (fun q h9 (h8 : ow q = 0 ∨ ow q = 1) => by omega)
  have hpa := hpa.keep hk1 (fun q h9 (h8 : ow q = 0 ∨ ow q = 1) => by omega)
  have hs0 : Tw X ow 0 (skW X (f 0) σ.2.1) H := hs0
  have hsb1 := hsb.sky (a := 0) (b := 1) (q := σ.2.1) (by decide) (by decide) hk1 hs0 hs1
  refine lv_aload_n hx hb dX9_restore_21 rfl (lv_at hl 0 rfl) ?_
  refine g_get (ci := 8) (v := .ref (g 0)) h0 hF inX9 hob.1 0 rfl rfl 2 (by decide) wf_X9_22 rfl rfl dX9_restore_22 ?_
  refine core_m (A1 := fun q => ow q = 21) (grV (n := 0) (As := []) (rest := []) h0 hF (m_X2_forget h0 (ow := ow) (f := f) (g := g) (σ := σ) hP) wm_X9_66 wo_X2_forget ws_X2__X2_forget wz_X2 wc_X2_forget ⟨by decide, by decide, by decide +kernel⟩ rfl ⟨Nat.le_of_ble_eq_true rfl, Nat.le_of_ble_eq_true rfl⟩ (ci := 1) ⟨_, hpa.1 0 _ rfl⟩ rfl hpa hS hAo ⟨Nat.le_of_ble_eq_true rfl, Nat.le_of_ble_eq_true rfl⟩ hl.1 rfl (Nat.le_of_ble_eq_true rfl) dX9_restore_25) hS (fun q (h8 : ow q = 21) => (show X.z ≤ q from hz q (by omega))) (fun v H locs hq hz1 hk1 hS => ?_)
  obtain ⟨rfl, hpa⟩ := hq
  have hob := hob.keep hk1 (fun q h9 (h8 : ow q = 21) => by omega)
  have hs0 := hs0.keep hk1 (fun q h9 (h8 : ow q = 21) => by omega)
  have hs1 := hs1.keep hk1 (fun q h9 (h8 : ow q = 21) => by omega)
  have hsb2 := hsb1.pa (σ' := sbRest σ) hk1 hpa rfl rfl (funext fun n => (if_neg (by omega)).symm) rfl rfl rfl
  refine lv_aload_n hx hb dX9_restore_28 rfl (lv_at hl 0 rfl) ?_
  refine g_get (ci := 8) (v := .ref (f 0 0)) h0 hF inX9 hob.1 0 rfl rfl 0 (by decide) wf_X9_12 rfl rfl dX9_restore_29 ?_
  refine g_get (ci := 4) (v := .ref (f 0 1)) h0 hF inX5 hs0.1 0 rfl rfl 0 (by decide) wf_X9_54 rfl rfl dX9_restore_32 ?_
  refine g_get (ci := 5) (v := .int (nI (σ.2.1.2 0))) h0 hF inX6 hs0.1 1 rfl rfl 0 (by decide) wf_X9_58 rfl rfl dX9_restore_35 ?_
  exact mm_iret hF hS dX9_restore_38 (⟨rfl, ow, f, g, hsb2⟩)
