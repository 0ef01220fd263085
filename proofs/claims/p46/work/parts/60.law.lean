/-! the law's own methods -/
theorem lg_cmp_self (x : Int64) : lg_cmp x x = 0 := by unfold lg_cmp; rw [if_neg Int64.lt_irrefl, if_pos rfl]
def dg (F : Nat → Int32) (h : Int64) : Nat → Int64
  | 0 => h
  | n + 1 => 31 * dg F h n + (F n).toInt64
def dgS (k : Sk) (h : Int64) : Nat → Int64
  | 0 => h
  | n + 1 => dg (starV k n) (dgS k h n) 6
def dgR (k : Sk) (h : Int64) : Nat → Int64
  | 0 => h
  | n + 1 => 31 * dg (roofV k n) (dgR k h n) 9 + (k.1 6 n).toInt64
def dgW (k : Sk) (h : Int64) : Nat → Int64
  | 0 => h
  | n + 1 => dg (wishV k n) (dgW k h n) 6
def dg0 (k : Sk) : Int64 := dg (accV k) 7 12
def dg1 (k : Sk) : Int64 := dg (k.1 4) (dg0 k) 4
def dg2 (k : Sk) : Int64 := dgS k (dg1 k) (k.2 0)
def dg3 (k : Sk) : Int64 := dgR k (dg2 k) (k.2 1)
theorem dg_0 (F : Nat → Int32) (h : Int64) : dg F h 0 = h := rfl
theorem dg_s (F : Nat → Int32) (h : Int64) (n : Nat) : 31 * dg F h n + (F n).toInt64 = dg F h (n + 1) := rfl
theorem dgS_0 (k : Sk) (h : Int64) : dgS k h 0 = h := rfl
theorem dgR_0 (k : Sk) (h : Int64) : dgR k h 0 = h := rfl
theorem dgW_0 (k : Sk) (h : Int64) : dgW k h 0 = h := rfl
theorem dgS_s (k : Sk) (h : Int64) (n : Nat) : dg (starV k n) (dgS k h n) 6 = dgS k h (n + 1) := rfl
theorem dgR_s (k : Sk) (h : Int64) (n : Nat) : 31 * dg (roofV k n) (dgR k h n) 9 + (k.1 6 n).toInt64 = dgR k h (n + 1) := rfl
theorem dgW_s (k : Sk) (h : Int64) (n : Nat) : dg (wishV k n) (dgW k h n) 6 = dgW k h (n + 1) := rfl
/-- the digest of a sky -/
def digV (k : Sk) : Int64 := dgW k (dg3 k) (k.2 2)

theorem run_X9_account {X : Cx} {p : Program} {l : Launch} {e : Env} {R : Room} {s : State} {m : MethodId} {args : Array Value} {below : List Frame} {meth : Method} {c : Code} {H : Heap} {locs : List Loc} {cells slots : Nat} {cc : ByteArray} {nL pc : Nat} {ls : Array Slot} {rest : List Value} {own : String} {ret : Option FieldType} {A : Nat → Prop} {idx : Nat} {cm : Nat → Nat} {o : Nat} {σ : Sb} (h0 : Init X) (hF : FX X p s m meth c cc nL ret own) (hO : Ok σ.1) (hB : SBH X cm o σ H) (w : Nat) (hw : w < 12) (hR : 2 + 1 ≤ R.frames ∧ 8 + (2 + 11) + 44 ≤ R.locals) (hw1 : Cond.methodLink own idx yX9_account ∈ gTs) (hS : va_S A s.heap H locs) (hA : ∀ q, q < X.z → ¬ A q) (hcs : cells + 0 ≤ R.cells ∧ slots + 0 ≤ R.slots) (hls : ls.size = nL) (hW : (rest.map fun v => v.category).sum ≤ 8) (hdg : decode cc pc = .ok (.invokevirtual idx, 3)) :
    va_Run p l e R s m args below meth c H locs cells slots 0 0 (F0 m pc ls (.int (nI w) :: .ref o :: rest)) rest (fun st o t => o = .returned (some (.int (accV σ.1 w))) ∧ t.heap = st.heap) noA := by
  match w, hw with
  | 0, _ => exact grV (n := 1) (As := [.int 0]) (rest := rest) h0 hF (m_X9_account_0 h0 (cm := cm) (o := o) (σ := σ) hO) hw1 wo_X9_account ws_X9__X9_account wz_X9 wc_X9_account ⟨by decide, by decide, by decide +kernel⟩ rfl ⟨by omega, by omega⟩ (ci := 8) (SBH.rec hB) rfl hB hS hA hcs hls rfl hW hdg
  | 1, _ => exact grV (n := 1) (As := [.int 1]) (rest := rest) h0 hF (m_X9_account_1 h0 (cm := cm) (o := o) (σ := σ) hO) hw1 wo_X9_account ws_X9__X9_account wz_X9 wc_X9_account ⟨by decide, by decide, by decide +kernel⟩ rfl ⟨by omega, by omega⟩ (ci := 8) (SBH.rec hB) rfl hB hS hA hcs hls rfl hW hdg
  | 2, _ => exact grV (n := 1) (As := [.int 2]) (rest := rest) h0 hF (m_X9_account_2 h0 (cm := cm) (o := o) (σ := σ) hO) hw1 wo_X9_account ws_X9__X9_account wz_X9 wc_X9_account ⟨by decide, by decide, by decide +kernel⟩ rfl ⟨by omega, by omega⟩ (ci := 8) (SBH.rec hB) rfl hB hS hA hcs hls rfl hW hdg
  | 3, _ => exact grV (n := 1) (As := [.int 3]) (rest := rest) h0 hF (m_X9_account_3 h0 (cm := cm) (o := o) (σ := σ) hO) hw1 wo_X9_account ws_X9__X9_account wz_X9 wc_X9_account ⟨by decide, by decide, by decide +kernel⟩ rfl ⟨by omega, by omega⟩ (ci := 8) (SBH.rec hB) rfl hB hS hA hcs hls rfl hW hdg
  | 4, _ => exact grV (n := 1) (As := [.int 4]) (rest := rest) h0 hF (m_X9_account_4 h0 (cm := cm) (o := o) (σ := σ) hO) hw1 wo_X9_account ws_X9__X9_account wz_X9 wc_X9_account ⟨by decide, by decide, by decide +kernel⟩ rfl ⟨by omega, by omega⟩ (ci := 8) (SBH.rec hB) rfl hB hS hA hcs hls rfl hW hdg
  | 5, _ => exact grV (n := 1) (As := [.int 5]) (rest := rest) h0 hF (m_X9_account_5 h0 (cm := cm) (o := o) (σ := σ) hO) hw1 wo_X9_account ws_X9__X9_account wz_X9 wc_X9_account ⟨by decide, by decide, by decide +kernel⟩ rfl ⟨by omega, by omega⟩ (ci := 8) (SBH.rec hB) rfl hB hS hA hcs hls rfl hW hdg
  | 6, _ => exact grV (n := 1) (As := [.int 6]) (rest := rest) h0 hF (m_X9_account_6 h0 (cm := cm) (o := o) (σ := σ) hO) hw1 wo_X9_account ws_X9__X9_account wz_X9 wc_X9_account ⟨by decide, by decide, by decide +kernel⟩ rfl ⟨by omega, by omega⟩ (ci := 8) (SBH.rec hB) rfl hB hS hA hcs hls rfl hW hdg
  | 7, _ => exact grV (n := 1) (As := [.int 7]) (rest := rest) h0 hF (m_X9_account_7 h0 (cm := cm) (o := o) (σ := σ) hO) hw1 wo_X9_account ws_X9__X9_account wz_X9 wc_X9_account ⟨by decide, by decide, by decide +kernel⟩ rfl ⟨by omega, by omega⟩ (ci := 8) (SBH.rec hB) rfl hB hS hA hcs hls rfl hW hdg
  | 8, _ => exact grV (n := 1) (As := [.int 8]) (rest := rest) h0 hF (m_X9_account_8 h0 (cm := cm) (o := o) (σ := σ) hO) hw1 wo_X9_account ws_X9__X9_account wz_X9 wc_X9_account ⟨by decide, by decide, by decide +kernel⟩ rfl ⟨by omega, by omega⟩ (ci := 8) (SBH.rec hB) rfl hB hS hA hcs hls rfl hW hdg
  | 9, _ => exact grV (n := 1) (As := [.int 9]) (rest := rest) h0 hF (m_X9_account_9 h0 (cm := cm) (o := o) (σ := σ) hO) hw1 wo_X9_account ws_X9__X9_account wz_X9 wc_X9_account ⟨by decide, by decide, by decide +kernel⟩ rfl ⟨by omega, by omega⟩ (ci := 8) (SBH.rec hB) rfl hB hS hA hcs hls rfl hW hdg
  | 10, _ => exact grV (n := 1) (As := [.int 10]) (rest := rest) h0 hF (m_X9_account_10 h0 (cm := cm) (o := o) (σ := σ) hO) hw1 wo_X9_account ws_X9__X9_account wz_X9 wc_X9_account ⟨by decide, by decide, by decide +kernel⟩ rfl ⟨by omega, by omega⟩ (ci := 8) (SBH.rec hB) rfl hB hS hA hcs hls rfl hW hdg
  | 11, _ => exact grV (n := 1) (As := [.int 11]) (rest := rest) h0 hF (m_X9_account_11 h0 (cm := cm) (o := o) (σ := σ) hO) hw1 wo_X9_account ws_X9__X9_account wz_X9 wc_X9_account ⟨by decide, by decide, by decide +kernel⟩ rfl ⟨by omega, by omega⟩ (ci := 8) (SBH.rec hB) rfl hB hS hA hcs hls rfl hW hdg
  | q + 12, h9 => omega

theorem run_X9_starOf {X : Cx} {p : Program} {l : Launch} {e : Env} {R : Room} {s : State} {m : MethodId} {args : Array Value} {below : List Frame} {meth : Method} {c : Code} {H : Heap} {locs : List Loc} {cells slots : Nat} {cc : ByteArray} {nL pc : Nat} {ls : Array Slot} {rest : List Value} {own : String} {ret : Option FieldType} {A : Nat → Prop} {idx : Nat} {cm : Nat → Nat} {o : Nat} {σ : Sb} (h0 : Init X) (hF : FX X p s m meth c cc nL ret own) (hO : Ok σ.1) (hB : SBH X cm o σ H) (w : Nat) (hw : w < 6) (x : Int32) (j : Nat) (hxj : x = nI j) (hj : j < σ.1.2 0) (hR : 2 + 1 ≤ R.frames ∧ 8 + (3 + 11) + 45 ≤ R.locals) (hw1 : Cond.methodLink own idx yX9_starOf ∈ gTs) (hS : va_S A s.heap H locs) (hA : ∀ q, q < X.z → ¬ A q) (hcs : cells + 0 ≤ R.cells ∧ slots + 0 ≤ R.slots) (hls : ls.size = nL) (hW : (rest.map fun v => v.category).sum ≤ 8) (hdg : decode cc pc = .ok (.invokevirtual idx, 3)) :
    va_Run p l e R s m args below meth c H locs cells slots 0 0 (F0 m pc ls (.int (nI w) :: .int x :: .ref o :: rest)) rest (fun st o t => o = .returned (some (.int (starV σ.1 j w))) ∧ t.heap = st.heap) noA := by
  match w, hw with
  | 0, _ => exact grV (n := 2) (As := [.int x, .int 0]) (rest := rest) h0 hF (m_X9_starOf_0 h0 (cm := cm) (o := o) (σ := σ) hO x j hxj hj) hw1 wo_X9_starOf ws_X9__X9_starOf wz_X9 wc_X9_starOf ⟨by decide, by decide, by decide +kernel⟩ rfl ⟨by omega, by omega⟩ (ci := 8) (SBH.rec hB) rfl hB hS hA hcs hls rfl hW hdg
  | 1, _ => exact grV (n := 2) (As := [.int x, .int 1]) (rest := rest) h0 hF (m_X9_starOf_1 h0 (cm := cm) (o := o) (σ := σ) hO x j hxj hj) hw1 wo_X9_starOf ws_X9__X9_starOf wz_X9 wc_X9_starOf ⟨by decide, by decide, by decide +kernel⟩ rfl ⟨by omega, by omega⟩ (ci := 8) (SBH.rec hB) rfl hB hS hA hcs hls rfl hW hdg
  | 2, _ => exact grV (n := 2) (As := [.int x, .int 2]) (rest := rest) h0 hF (m_X9_starOf_2 h0 (cm := cm) (o := o) (σ := σ) hO x j hxj hj) hw1 wo_X9_starOf ws_X9__X9_starOf wz_X9 wc_X9_starOf ⟨by decide, by decide, by decide +kernel⟩ rfl ⟨by omega, by omega⟩ (ci := 8) (SBH.rec hB) rfl hB hS hA hcs hls rfl hW hdg
  | 3, _ => exact grV (n := 2) (As := [.int x, .int 3]) (rest := rest) h0 hF (m_X9_starOf_3 h0 (cm := cm) (o := o) (σ := σ) hO x j hxj hj) hw1 wo_X9_starOf ws_X9__X9_starOf wz_X9 wc_X9_starOf ⟨by decide, by decide, by decide +kernel⟩ rfl ⟨by omega, by omega⟩ (ci := 8) (SBH.rec hB) rfl hB hS hA hcs hls rfl hW hdg
  | 4, _ => exact grV (n := 2) (As := [.int x, .int 4]) (rest := rest) h0 hF (m_X9_starOf_4 h0 (cm := cm) (o := o) (σ := σ) hO x j hxj hj) hw1 wo_X9_starOf ws_X9__X9_starOf wz_X9 wc_X9_starOf ⟨by decide, by decide, by decide +kernel⟩ rfl ⟨by omega, by omega⟩ (ci := 8) (SBH.rec hB) rfl hB hS hA hcs hls rfl hW hdg
  | 5, _ => exact grV (n := 2) (As := [.int x, .int 5]) (rest := rest) h0 hF (m_X9_starOf_5 h0 (cm := cm) (o := o) (σ := σ) hO x j hxj hj) hw1 wo_X9_starOf ws_X9__X9_starOf wz_X9 wc_X9_starOf ⟨by decide, by decide, by decide +kernel⟩ rfl ⟨by omega, by omega⟩ (ci := 8) (SBH.rec hB) rfl hB hS hA hcs hls rfl hW hdg
  | q + 6, h9 => omega

theorem run_X9_roofOf {X : Cx} {p : Program} {l : Launch} {e : Env} {R : Room} {s : State} {m : MethodId} {args : Array Value} {below : List Frame} {meth : Method} {c : Code} {H : Heap} {locs : List Loc} {cells slots : Nat} {cc : ByteArray} {nL pc : Nat} {ls : Array Slot} {rest : List Value} {own : String} {ret : Option FieldType} {A : Nat → Prop} {idx : Nat} {cm : Nat → Nat} {o : Nat} {σ : Sb} (h0 : Init X) (hF : FX X p s m meth c cc nL ret own) (hO : Ok σ.1) (hB : SBH X cm o σ H) (w : Nat) (hw : w < 9) (x : Int32) (j : Nat) (hxj : x = nI j) (hj : j < σ.1.2 1) (hR : 2 + 1 ≤ R.frames ∧ 8 + (3 + 11) + 45 ≤ R.locals) (hw1 : Cond.methodLink own idx yX9_roofOf ∈ gTs) (hS : va_S A s.heap H locs) (hA : ∀ q, q < X.z → ¬ A q) (hcs : cells + 0 ≤ R.cells ∧ slots + 0 ≤ R.slots) (hls : ls.size = nL) (hW : (rest.map fun v => v.category).sum ≤ 8) (hdg : decode cc pc = .ok (.invokevirtual idx, 3)) :
    va_Run p l e R s m args below meth c H locs cells slots 0 0 (F0 m pc ls (.int (nI w) :: .int x :: .ref o :: rest)) rest (fun st o t => o = .returned (some (.int (roofV σ.1 j w))) ∧ t.heap = st.heap) noA := by
  match w, hw with
  | 0, _ => exact grV (n := 2) (As := [.int x, .int 0]) (rest := rest) h0 hF (m_X9_roofOf_0 h0 (cm := cm) (o := o) (σ := σ) hO x j hxj hj) hw1 wo_X9_roofOf ws_X9__X9_roofOf wz_X9 wc_X9_roofOf ⟨by decide, by decide, by decide +kernel⟩ rfl ⟨by omega, by omega⟩ (ci := 8) (SBH.rec hB) rfl hB hS hA hcs hls rfl hW hdg
  | 1, _ => exact grV (n := 2) (As := [.int x, .int 1]) (rest := rest) h0 hF (m_X9_roofOf_1 h0 (cm := cm) (o := o) (σ := σ) hO x j hxj hj) hw1 wo_X9_roofOf ws_X9__X9_roofOf wz_X9 wc_X9_roofOf ⟨by decide, by decide, by decide +kernel⟩ rfl ⟨by omega, by omega⟩ (ci := 8) (SBH.rec hB) rfl hB hS hA hcs hls rfl hW hdg
  | 2, _ => exact grV (n := 2) (As := [.int x, .int 2]) (rest := rest) h0 hF (m_X9_roofOf_2 h0 (cm := cm) (o := o) (σ := σ) hO x j hxj hj) hw1 wo_X9_roofOf ws_X9__X9_roofOf wz_X9 wc_X9_roofOf ⟨by decide, by decide, by decide +kernel⟩ rfl ⟨by omega, by omega⟩ (ci := 8) (SBH.rec hB) rfl hB hS hA hcs hls rfl hW hdg
  | 3, _ => exact grV (n := 2) (As := [.int x, .int 3]) (rest := rest) h0 hF (m_X9_roofOf_3 h0 (cm := cm) (o := o) (σ := σ) hO x j hxj hj) hw1 wo_X9_roofOf ws_X9__X9_roofOf wz_X9 wc_X9_roofOf ⟨by decide, by decide, by decide +kernel⟩ rfl ⟨by omega, by omega⟩ (ci := 8) (SBH.rec hB) rfl hB hS hA hcs hls rfl hW hdg
  | 4, _ => exact grV (n := 2) (As := [.int x, .int 4]) (rest := rest) h0 hF (m_X9_roofOf_4 h0 (cm := cm) (o := o) (σ := σ) hO x j hxj hj) hw1 wo_X9_roofOf ws_X9__X9_roofOf wz_X9 wc_X9_roofOf ⟨by decide, by decide, by decide +kernel⟩ rfl ⟨by omega, by omega⟩ (ci := 8) (SBH.rec hB) rfl hB hS hA hcs hls rfl hW hdg
  | 5, _ => exact grV (n := 2) (As := [.int x, .int 5]) (rest := rest) h0 hF (m_X9_roofOf_5 h0 (cm := cm) (o := o) (σ := σ) hO x j hxj hj) hw1 wo_X9_roofOf ws_X9__X9_roofOf wz_X9 wc_X9_roofOf ⟨by decide, by decide, by decide +kernel⟩ rfl ⟨by omega, by omega⟩ (ci := 8) (SBH.rec hB) rfl hB hS hA hcs hls rfl hW hdg
  | 6, _ => exact grV (n := 2) (As := [.int x, .int 6]) (rest := rest) h0 hF (m_X9_roofOf_6 h0 (cm := cm) (o := o) (σ := σ) hO x j hxj hj) hw1 wo_X9_roofOf ws_X9__X9_roofOf wz_X9 wc_X9_roofOf ⟨by decide, by decide, by decide +kernel⟩ rfl ⟨by omega, by omega⟩ (ci := 8) (SBH.rec hB) rfl hB hS hA hcs hls rfl hW hdg
  | 7, _ => exact grV (n := 2) (As := [.int x, .int 7]) (rest := rest) h0 hF (m_X9_roofOf_7 h0 (cm := cm) (o := o) (σ := σ) hO x j hxj hj) hw1 wo_X9_roofOf ws_X9__X9_roofOf wz_X9 wc_X9_roofOf ⟨by decide, by decide, by decide +kernel⟩ rfl ⟨by omega, by omega⟩ (ci := 8) (SBH.rec hB) rfl hB hS hA hcs hls rfl hW hdg
  | 8, _ => exact grV (n := 2) (As := [.int x, .int 8]) (rest := rest) h0 hF (m_X9_roofOf_8 h0 (cm := cm) (o := o) (σ := σ) hO x j hxj hj) hw1 wo_X9_roofOf ws_X9__X9_roofOf wz_X9 wc_X9_roofOf ⟨by decide, by decide, by decide +kernel⟩ rfl ⟨by omega, by omega⟩ (ci := 8) (SBH.rec hB) rfl hB hS hA hcs hls rfl hW hdg
  | q + 9, h9 => omega

theorem run_X9_wishOf {X : Cx} {p : Program} {l : Launch} {e : Env} {R : Room} {s : State} {m : MethodId} {args : Array Value} {below : List Frame} {meth : Method} {c : Code} {H : Heap} {locs : List Loc} {cells slots : Nat} {cc : ByteArray} {nL pc : Nat} {ls : Array Slot} {rest : List Value} {own : String} {ret : Option FieldType} {A : Nat → Prop} {idx : Nat} {cm : Nat → Nat} {o : Nat} {σ : Sb} (h0 : Init X) (hF : FX X p s m meth c cc nL ret own) (hO : Ok σ.1) (hB : SBH X cm o σ H) (w : Nat) (hw : w < 6) (x : Int32) (j : Nat) (hxj : x = nI j) (hj : j < σ.1.2 2) (hR : 1 + 1 ≤ R.frames ∧ 8 + (3 + 11) + 21 ≤ R.locals) (hw1 : Cond.methodLink own idx yX9_wishOf ∈ gTs) (hS : va_S A s.heap H locs) (hA : ∀ q, q < X.z → ¬ A q) (hcs : cells + 0 ≤ R.cells ∧ slots + 0 ≤ R.slots) (hls : ls.size = nL) (hW : (rest.map fun v => v.category).sum ≤ 8) (hdg : decode cc pc = .ok (.invokevirtual idx, 3)) :
    va_Run p l e R s m args below meth c H locs cells slots 0 0 (F0 m pc ls (.int (nI w) :: .int x :: .ref o :: rest)) rest (fun st o t => o = .returned (some (.int (wishV σ.1 j w))) ∧ t.heap = st.heap) noA := by
  match w, hw with
  | 0, _ => exact grV (n := 2) (As := [.int x, .int 0]) (rest := rest) h0 hF (m_X9_wishOf_0 h0 (cm := cm) (o := o) (σ := σ) hO x j hxj hj) hw1 wo_X9_wishOf ws_X9__X9_wishOf wz_X9 wc_X9_wishOf ⟨by decide, by decide, by decide +kernel⟩ rfl ⟨by omega, by omega⟩ (ci := 8) (SBH.rec hB) rfl hB hS hA hcs hls rfl hW hdg
  | 1, _ => exact grV (n := 2) (As := [.int x, .int 1]) (rest := rest) h0 hF (m_X9_wishOf_1 h0 (cm := cm) (o := o) (σ := σ) hO x j hxj hj) hw1 wo_X9_wishOf ws_X9__X9_wishOf wz_X9 wc_X9_wishOf ⟨by decide, by decide, by decide +kernel⟩ rfl ⟨by omega, by omega⟩ (ci := 8) (SBH.rec hB) rfl hB hS hA hcs hls rfl hW hdg
  | 2, _ => exact grV (n := 2) (As := [.int x, .int 2]) (rest := rest) h0 hF (m_X9_wishOf_2 h0 (cm := cm) (o := o) (σ := σ) hO x j hxj hj) hw1 wo_X9_wishOf ws_X9__X9_wishOf wz_X9 wc_X9_wishOf ⟨by decide, by decide, by decide +kernel⟩ rfl ⟨by omega, by omega⟩ (ci := 8) (SBH.rec hB) rfl hB hS hA hcs hls rfl hW hdg
  | 3, _ => exact grV (n := 2) (As := [.int x, .int 3]) (rest := rest) h0 hF (m_X9_wishOf_3 h0 (cm := cm) (o := o) (σ := σ) hO x j hxj hj) hw1 wo_X9_wishOf ws_X9__X9_wishOf wz_X9 wc_X9_wishOf ⟨by decide, by decide, by decide +kernel⟩ rfl ⟨by omega, by omega⟩ (ci := 8) (SBH.rec hB) rfl hB hS hA hcs hls rfl hW hdg
  | 4, _ => exact grV (n := 2) (As := [.int x, .int 4]) (rest := rest) h0 hF (m_X9_wishOf_4 h0 (cm := cm) (o := o) (σ := σ) hO x j hxj hj) hw1 wo_X9_wishOf ws_X9__X9_wishOf wz_X9 wc_X9_wishOf ⟨by decide, by decide, by decide +kernel⟩ rfl ⟨by omega, by omega⟩ (ci := 8) (SBH.rec hB) rfl hB hS hA hcs hls rfl hW hdg
  | 5, _ => exact grV (n := 2) (As := [.int x, .int 5]) (rest := rest) h0 hF (m_X9_wishOf_5 h0 (cm := cm) (o := o) (σ := σ) hO x j hxj hj) hw1 wo_X9_wishOf ws_X9__X9_wishOf wz_X9 wc_X9_wishOf ⟨by decide, by decide, by decide +kernel⟩ rfl ⟨by omega, by omega⟩ (ci := 8) (SBH.rec hB) rfl hB hS hA hcs hls rfl hW hdg
  | q + 6, h9 => omega

set_option maxHeartbeats 4000000 in
set_option maxRecDepth 100000 in
theorem m_L_digest {X : Cx} {l : Launch} (h0 : Init X) {cm : Nat → Nat} {o : Nat} {σ : Sb} (hO : Ok σ.1) : PM X l yL_digest cL_digest 5 (some .long) 3 67 [.ref o] (SBH X cm o σ) (.long (digV σ.1)) := by
  refine Met.mk (Bh := (SBH X cm o σ)) (by decide) (Nat.le_of_ble_eq_true rfl) ?_
  intro p e s m below meth c ls hF hB hl
  have hl : lv_has ls 5 [(0, .ref o)] := hl
  obtain ⟨hx, hb, hml, hr, hlk, hown, hG⟩ := id hF
  have hK := hG.K h0
  have hS : va_S noA s.heap s.heap [] := va_S.rf
  have hO1 := hO.1
  have hO2 := hO.2.1
  have hO3 := hO.2.2.1
  refine lv_ldc2 hx hb hown (hG.hts h0 _ _ wnl_L_85) dL_digest_0 ?_
  refine lv_lstore_n (lv' := [(1, .long 7), (0, .ref o)]) hx hb dL_digest_3 rfl hl (by decide) rfl (fun ls hl => ?_)
  refine lv_iconst (v := 0) hx hb dL_digest_4 (by decide) ?_
  refine lv_istore_n (lv' := [(3, .int 0), (1, .long 7), (0, .ref o)]) hx hb dL_digest_5 rfl hl (by decide) rfl (fun ls hl => ?_)
  have key_6 : ∀ (nf a : Nat), a + nf = 12 → ∀ (ls : Array Slot), lv_has ls 5 [(0, .ref o), (1, .long (dg (accV σ.1) 7 a)), (3, .int (nI a))] → W p l e ({ frames := 3, cells := 0, slots := 0, locals := 67 } : Room) s m ([.ref o] : List Value).toArray below meth c s.heap [] 0 0 (MQ below (qP (.long (digV σ.1))) ([.ref o] : List Value).toArray s 0 0 noA) (F0 m 6 ls []) := by
    intro nf
    induction nf with
    | zero =>
      intro a ha ls hl
      have ha_e : a = 12 := by omega
      subst ha_e
      refine lv_iload_n hx hb dL_digest_6 rfl (lv_at hl 2 rfl) ?_
      refine lv_bipush (v := 12) hx hb dL_digest_7 (by decide) ?_
      refine lv_icmp_ge (tgt := 31) hx hb dL_digest_9 (by decide) (fun c_9 => ?_) (fun c_9 => absurd (nI_le (a := 12) (b := 12) (by omega) (by omega)) c_9)
      have n_9 := Int32.not_lt.mpr c_9
      refine lv_iconst (v := 0) hx hb dL_digest_31 (by decide) ?_
      refine lv_istore_n (lv' := [(3, .int 0), (0, .ref o), (1, .long (dg (accV σ.1) 7 12))]) hx hb dL_digest_32 rfl hl (by decide) rfl (fun ls hl => ?_)
      have key_33 : ∀ (nf d : Nat), d + nf = 4 → ∀ (ls : Array Slot), lv_has ls 5 [(0, .ref o), (1, .long (dg (σ.1.1 4) (dg0 σ.1) d)), (3, .int (nI d))] → W p l e ({ frames := 3, cells := 0, slots := 0, locals := 67 } : Room) s m ([.ref o] : List Value).toArray below meth c s.heap [] 0 0 (MQ below (qP (.long (digV σ.1))) ([.ref o] : List Value).toArray s 0 0 noA) (F0 m 33 ls []) := by
        intro nf
        induction nf with
        | zero =>
          intro d hd ls hl
          have hd_e : d = 4 := by omega
          subst hd_e
          refine lv_iload_n hx hb dL_digest_33 rfl (lv_at hl 2 rfl) ?_
          refine lv_iconst (v := 4) hx hb dL_digest_34 (by decide) ?_
          refine lv_icmp_ge (tgt := 57) hx hb dL_digest_35 (by decide) (fun c_35 => ?_) (fun c_35 => absurd (nI_le (a := 4) (b := 4) (by omega) (by omega)) c_35)
          have n_35 := Int32.not_lt.mpr c_35
          refine lv_iconst (v := 0) hx hb dL_digest_57 (by decide) ?_
          refine lv_istore_n (lv' := [(3, .int 0), (0, .ref o), (1, .long (dg (σ.1.1 4) (dg0 σ.1) 4))]) hx hb dL_digest_58 rfl hl (by decide) rfl (fun ls hl => ?_)
          have key_59 : ∀ (nf i : Nat), i + nf = σ.1.2 0 → ∀ (ls : Array Slot), lv_has ls 5 [(0, .ref o), (1, .long (dgS σ.1 (dg1 σ.1) i)), (3, .int (nI i))] → W p l e ({ frames := 3, cells := 0, slots := 0, locals := 67 } : Room) s m ([.ref o] : List Value).toArray below meth c s.heap [] 0 0 (MQ below (qP (.long (digV σ.1))) ([.ref o] : List Value).toArray s 0 0 noA) (F0 m 59 ls []) := by
            intro nf
            induction nf with
            | zero =>
              intro i hi ls hl
              have hi_e : i = σ.1.2 0 := by omega
              subst hi_e
              refine lv_iload_n hx hb dL_digest_59 rfl (lv_at hl 2 rfl) ?_
              refine lv_aload_n hx hb dL_digest_60 rfl (lv_at hl 0 rfl) ?_
              refine lv_iconst (v := 0) hx hb dL_digest_61 (by decide) ?_
              refine core_p (v := .int (nI (σ.1.2 0))) (grV (n := 1) (As := [.int 0]) (rest := [.int (nI (σ.1.2 0))]) h0 hF (m_X9_account_0 h0 (cm := cm) (o := o) (σ := σ) hO) wm_L_89 wo_X9_account ws_X9__X9_account wz_X9 wc_X9_account ⟨by decide, by decide, by decide +kernel⟩ rfl ⟨Nat.le_of_ble_eq_true rfl, Nat.le_of_ble_eq_true rfl⟩ (ci := 8) (SBH.rec hB) rfl hB hS noA_old ⟨Nat.zero_le _, Nat.zero_le _⟩ hl.1 rfl (Nat.le_of_ble_eq_true rfl) dL_digest_62) ?_
              refine lv_icmp_ge (tgt := 105) hx hb dL_digest_65 (by decide) (fun c_65 => ?_) (fun c_65 => absurd (nI_le (a := σ.1.2 0) (b := σ.1.2 0) (by omega) (by omega)) c_65)
              have n_65 := Int32.not_lt.mpr c_65
              refine lv_iconst (v := 0) hx hb dL_digest_105 (by decide) ?_
              refine lv_istore_n (lv' := [(3, .int 0), (0, .ref o), (1, .long (dgS σ.1 (dg1 σ.1) (σ.1.2 0)))]) hx hb dL_digest_106 rfl hl (by decide) rfl (fun ls hl => ?_)
              have key_107 : ∀ (nf r : Nat), r + nf = σ.1.2 1 → ∀ (ls : Array Slot), lv_has ls 5 [(0, .ref o), (1, .long (dgR σ.1 (dg2 σ.1) r)), (3, .int (nI r))] → W p l e ({ frames := 3, cells := 0, slots := 0, locals := 67 } : Room) s m ([.ref o] : List Value).toArray below meth c s.heap [] 0 0 (MQ below (qP (.long (digV σ.1))) ([.ref o] : List Value).toArray s 0 0 noA) (F0 m 107 ls []) := by
                intro nf
                induction nf with
                | zero =>
                  intro r hr ls hl
                  have hr_e : r = σ.1.2 1 := by omega
                  subst hr_e
                  refine lv_iload_n hx hb dL_digest_107 rfl (lv_at hl 2 rfl) ?_
                  refine lv_aload_n hx hb dL_digest_108 rfl (lv_at hl 0 rfl) ?_
                  refine lv_iconst (v := 1) hx hb dL_digest_109 (by decide) ?_
                  refine core_p (v := .int (nI (σ.1.2 1))) (grV (n := 1) (As := [.int 1]) (rest := [.int (nI (σ.1.2 1))]) h0 hF (m_X9_account_1 h0 (cm := cm) (o := o) (σ := σ) hO) wm_L_89 wo_X9_account ws_X9__X9_account wz_X9 wc_X9_account ⟨by decide, by decide, by decide +kernel⟩ rfl ⟨Nat.le_of_ble_eq_true rfl, Nat.le_of_ble_eq_true rfl⟩ (ci := 8) (SBH.rec hB) rfl hB hS noA_old ⟨Nat.zero_le _, Nat.zero_le _⟩ hl.1 rfl (Nat.le_of_ble_eq_true rfl) dL_digest_110) ?_
                  refine lv_icmp_ge (tgt := 166) hx hb dL_digest_113 (by decide) (fun c_113 => ?_) (fun c_113 => absurd (nI_le (a := σ.1.2 1) (b := σ.1.2 1) (by omega) (by omega)) c_113)
                  have n_113 := Int32.not_lt.mpr c_113
                  refine lv_iconst (v := 0) hx hb dL_digest_166 (by decide) ?_
                  refine lv_istore_n (lv' := [(3, .int 0), (0, .ref o), (1, .long (dgR σ.1 (dg2 σ.1) (σ.1.2 1)))]) hx hb dL_digest_167 rfl hl (by decide) rfl (fun ls hl => ?_)
                  have key_168 : ∀ (nf v : Nat), v + nf = σ.1.2 2 → ∀ (ls : Array Slot), lv_has ls 5 [(0, .ref o), (1, .long (dgW σ.1 (dg3 σ.1) v)), (3, .int (nI v))] → W p l e ({ frames := 3, cells := 0, slots := 0, locals := 67 } : Room) s m ([.ref o] : List Value).toArray below meth c s.heap [] 0 0 (MQ below (qP (.long (digV σ.1))) ([.ref o] : List Value).toArray s 0 0 noA) (F0 m 168 ls []) := by
                    intro nf
                    induction nf with
                    | zero =>
                      intro v hv ls hl
                      have hv_e : v = σ.1.2 2 := by omega
                      subst hv_e
                      refine lv_iload_n hx hb dL_digest_168 rfl (lv_at hl 2 rfl) ?_
                      refine lv_aload_n hx hb dL_digest_169 rfl (lv_at hl 0 rfl) ?_
                      refine lv_iconst (v := 2) hx hb dL_digest_170 (by decide) ?_
                      refine core_p (v := .int (nI (σ.1.2 2))) (grV (n := 1) (As := [.int 2]) (rest := [.int (nI (σ.1.2 2))]) h0 hF (m_X9_account_2 h0 (cm := cm) (o := o) (σ := σ) hO) wm_L_89 wo_X9_account ws_X9__X9_account wz_X9 wc_X9_account ⟨by decide, by decide, by decide +kernel⟩ rfl ⟨Nat.le_of_ble_eq_true rfl, Nat.le_of_ble_eq_true rfl⟩ (ci := 8) (SBH.rec hB) rfl hB hS noA_old ⟨Nat.zero_le _, Nat.zero_le _⟩ hl.1 rfl (Nat.le_of_ble_eq_true rfl) dL_digest_171) ?_
                      refine lv_icmp_ge (tgt := 214) hx hb dL_digest_174 (by decide) (fun c_174 => ?_) (fun c_174 => absurd (nI_le (a := σ.1.2 2) (b := σ.1.2 2) (by omega) (by omega)) c_174)
                      have n_174 := Int32.not_lt.mpr c_174
                      refine lv_lload_n hx hb dL_digest_214 rfl (lv_at hl 1 rfl) ?_
                      exact pm_lret hF dL_digest_215 (by rw [digV])
                    | succ nf ih_168 =>
                      intro v hv ls hl
                      have hv_l : v < σ.1.2 2 := by omega
                      refine lv_iload_n hx hb dL_digest_168 rfl (lv_at hl 2 rfl) ?_
                      refine lv_aload_n hx hb dL_digest_169 rfl (lv_at hl 0 rfl) ?_
                      refine lv_iconst (v := 2) hx hb dL_digest_170 (by decide) ?_
                      refine core_p (v := .int (nI (σ.1.2 2))) (grV (n := 1) (As := [.int 2]) (rest := [.int (nI v)]) h0 hF (m_X9_account_2 h0 (cm := cm) (o := o) (σ := σ) hO) wm_L_89 wo_X9_account ws_X9__X9_account wz_X9 wc_X9_account ⟨by decide, by decide, by decide +kernel⟩ rfl ⟨Nat.le_of_ble_eq_true rfl, Nat.le_of_ble_eq_true rfl⟩ (ci := 8) (SBH.rec hB) rfl hB hS noA_old ⟨Nat.zero_le _, Nat.zero_le _⟩ hl.1 rfl (Nat.le_of_ble_eq_true rfl) dL_digest_171) ?_
                      refine lv_icmp_ge (tgt := 214) hx hb dL_digest_174 (by decide) (fun c_174 => absurd c_174 (nI_ge (a := v) (b := σ.1.2 2) (by omega) (by omega))) (fun c_174 => ?_)
                      have n_174 := Int32.not_le.mp c_174
                      refine lv_iconst (v := 0) hx hb dL_digest_177 (by decide) ?_
                      refine lv_istore (lv' := [(4, .int 0), (0, .ref o), (1, .long (dgW σ.1 (dg3 σ.1) v)), (3, .int (nI v))]) hx hb dL_digest_178 hl (by decide) rfl (fun ls hl => ?_)
                      have key_180 : ∀ (nf y : Nat), y + nf = 6 → ∀ (ls : Array Slot), lv_has ls 5 [(0, .ref o), (1, .long (dg (wishV σ.1 v) (dgW σ.1 (dg3 σ.1) v) y)), (3, .int (nI v)), (4, .int (nI y))] → W p l e ({ frames := 3, cells := 0, slots := 0, locals := 67 } : Room) s m ([.ref o] : List Value).toArray below meth c s.heap [] 0 0 (MQ below (qP (.long (digV σ.1))) ([.ref o] : List Value).toArray s 0 0 noA) (F0 m 180 ls []) := by
                        intro nf
                        induction nf with
                        | zero =>
                          intro y hy ls hl
                          have hy_e : y = 6 := by omega
                          subst hy_e
                          refine lv_iload hx hb dL_digest_180 (lv_at hl 3 rfl) ?_
                          refine lv_bipush (v := 6) hx hb dL_digest_182 (by decide) ?_
                          refine lv_icmp_ge (tgt := 208) hx hb dL_digest_184 (by decide) (fun c_184 => ?_) (fun c_184 => absurd (nI_le (a := 6) (b := 6) (by omega) (by omega)) c_184)
                          have n_184 := Int32.not_lt.mpr c_184
                          refine lv_iinc (v := nI (v + 1)) (lv' := [(3, .int (nI (v + 1))), (0, .ref o), (1, .long (dg (wishV σ.1 v) (dgW σ.1 (dg3 σ.1) v) 6)), (4, .int (nI 6))]) hx hb dL_digest_208 hl (k := 2) rfl (nI_1 v) (by decide) rfl (fun ls hl => ?_)
                          refine lv_goto (tgt := 168) hx hb dL_digest_211 (by decide) ?_
                          refine ih_168 (v + 1) (by omega) ls (lv_eqv (lv_sub (l' := [(0, .ref o), (1, .long (dg (wishV σ.1 v) (dgW σ.1 (dg3 σ.1) v) 6)), (3, .int (nI (v + 1)))]) hl [1, 2, 0] rfl) ?_)
                          rw [show (dg (wishV σ.1 v) (dgW σ.1 (dg3 σ.1) v) 6) = (dgW σ.1 (dg3 σ.1) (v + 1)) from (dgW_s _ _ _)]
                        | succ nf ih_180 =>
                          intro y hy ls hl
                          have hy_l : y < 6 := by omega
                          refine lv_iload hx hb dL_digest_180 (lv_at hl 3 rfl) ?_
                          refine lv_bipush (v := 6) hx hb dL_digest_182 (by decide) ?_
                          refine lv_icmp_ge (tgt := 208) hx hb dL_digest_184 (by decide) (fun c_184 => absurd c_184 (nI_ge (a := y) (b := 6) (by omega) (by omega))) (fun c_184 => ?_)
                          have n_184 := Int32.not_le.mp c_184
                          refine lv_ldc2 hx hb hown (hG.hts h0 _ _ wnl_L_87) dL_digest_187 ?_
                          refine lv_lload_n hx hb dL_digest_190 rfl (lv_at hl 1 rfl) ?_
                          refine lv_lmul hx hb dL_digest_191 ?_
                          refine lv_aload_n hx hb dL_digest_192 rfl (lv_at hl 0 rfl) ?_
                          refine lv_iload_n hx hb dL_digest_193 rfl (lv_at hl 2 rfl) ?_
                          refine lv_iload hx hb dL_digest_194 (lv_at hl 3 rfl) ?_
                          refine core_p (v := .int (wishV σ.1 v y)) (run_X9_wishOf h0 hF (cm := cm) (σ := σ) hO hB y hy_l (nI v) v rfl (by omega) ⟨Nat.le_of_ble_eq_true rfl, Nat.le_of_ble_eq_true rfl⟩ (rest := [.long (31 * (dg (wishV σ.1 v) (dgW σ.1 (dg3 σ.1) v) y))]) wm_L_104 hS noA_old ⟨Nat.zero_le _, Nat.zero_le _⟩ hl.1 (Nat.le_of_ble_eq_true rfl) dL_digest_196) ?_
                          refine lv_i2l (v := (wishV σ.1 v y).toInt64) hx hb dL_digest_199 (rfl) ?_
                          refine lv_ladd hx hb dL_digest_200 ?_
                          refine lv_lstore_n (lv' := [(1, .long ((31 * (dg (wishV σ.1 v) (dgW σ.1 (dg3 σ.1) v) y)) + ((wishV σ.1 v y).toInt64))), (0, .ref o), (3, .int (nI v)), (4, .int (nI y))]) hx hb dL_digest_201 rfl hl (by decide) rfl (fun ls hl => ?_)
                          refine lv_iinc (v := nI (y + 1)) (lv' := [(4, .int (nI (y + 1))), (1, .long ((31 * (dg (wishV σ.1 v) (dgW σ.1 (dg3 σ.1) v) y)) + ((wishV σ.1 v y).toInt64))), (0, .ref o), (3, .int (nI v))]) hx hb dL_digest_202 hl (k := 3) rfl (nI_1 y) (by decide) rfl (fun ls hl => ?_)
                          refine lv_goto (tgt := 180) hx hb dL_digest_205 (by decide) ?_
                          refine ih_180 (y + 1) (by omega) ls (lv_eqv (lv_sub (l' := [(0, .ref o), (1, .long ((31 * (dg (wishV σ.1 v) (dgW σ.1 (dg3 σ.1) v) y)) + ((wishV σ.1 v y).toInt64))), (3, .int (nI v)), (4, .int (nI (y + 1)))]) hl [2, 1, 3, 0] rfl) ?_)
                          rw [show ((31 * (dg (wishV σ.1 v) (dgW σ.1 (dg3 σ.1) v) y)) + ((wishV σ.1 v y).toInt64)) = (dg (wishV σ.1 v) (dgW σ.1 (dg3 σ.1) v) (y + 1)) from (dg_s _ _ _)]
                      refine key_180 (6) 0 (by omega) ls (lv_eqv (lv_sub (l' := [(0, .ref o), (1, .long (dgW σ.1 (dg3 σ.1) v)), (3, .int (nI v)), (4, .int 0)]) hl [1, 2, 3, 0] rfl) ?_)
                      rw [dg_0]; rfl
                  refine key_168 (σ.1.2 2) 0 (by omega) ls (lv_eqv (lv_sub (l' := [(0, .ref o), (1, .long (dgR σ.1 (dg2 σ.1) (σ.1.2 1))), (3, .int 0)]) hl [1, 2, 0] rfl) ?_)
                  rw [dgW_0, dg3]; rfl
                | succ nf ih_107 =>
                  intro r hr ls hl
                  have hr_l : r < σ.1.2 1 := by omega
                  refine lv_iload_n hx hb dL_digest_107 rfl (lv_at hl 2 rfl) ?_
                  refine lv_aload_n hx hb dL_digest_108 rfl (lv_at hl 0 rfl) ?_
                  refine lv_iconst (v := 1) hx hb dL_digest_109 (by decide) ?_
                  refine core_p (v := .int (nI (σ.1.2 1))) (grV (n := 1) (As := [.int 1]) (rest := [.int (nI r)]) h0 hF (m_X9_account_1 h0 (cm := cm) (o := o) (σ := σ) hO) wm_L_89 wo_X9_account ws_X9__X9_account wz_X9 wc_X9_account ⟨by decide, by decide, by decide +kernel⟩ rfl ⟨Nat.le_of_ble_eq_true rfl, Nat.le_of_ble_eq_true rfl⟩ (ci := 8) (SBH.rec hB) rfl hB hS noA_old ⟨Nat.zero_le _, Nat.zero_le _⟩ hl.1 rfl (Nat.le_of_ble_eq_true rfl) dL_digest_110) ?_
                  refine lv_icmp_ge (tgt := 166) hx hb dL_digest_113 (by decide) (fun c_113 => absurd c_113 (nI_ge (a := r) (b := σ.1.2 1) (by omega) (by omega))) (fun c_113 => ?_)
                  have n_113 := Int32.not_le.mp c_113
                  refine lv_iconst (v := 0) hx hb dL_digest_116 (by decide) ?_
                  refine lv_istore (lv' := [(4, .int 0), (0, .ref o), (1, .long (dgR σ.1 (dg2 σ.1) r)), (3, .int (nI r))]) hx hb dL_digest_117 hl (by decide) rfl (fun ls hl => ?_)
                  have key_119 : ∀ (nf u : Nat), u + nf = 9 → ∀ (ls : Array Slot), lv_has ls 5 [(0, .ref o), (1, .long (dg (roofV σ.1 r) (dgR σ.1 (dg2 σ.1) r) u)), (3, .int (nI r)), (4, .int (nI u))] → W p l e ({ frames := 3, cells := 0, slots := 0, locals := 67 } : Room) s m ([.ref o] : List Value).toArray below meth c s.heap [] 0 0 (MQ below (qP (.long (digV σ.1))) ([.ref o] : List Value).toArray s 0 0 noA) (F0 m 119 ls []) := by
                    intro nf
                    induction nf with
                    | zero =>
                      intro u hu ls hl
                      have hu_e : u = 9 := by omega
                      subst hu_e
                      refine lv_iload hx hb dL_digest_119 (lv_at hl 3 rfl) ?_
                      refine lv_bipush (v := 9) hx hb dL_digest_121 (by decide) ?_
                      refine lv_icmp_ge (tgt := 147) hx hb dL_digest_123 (by decide) (fun c_123 => ?_) (fun c_123 => absurd (nI_le (a := 9) (b := 9) (by omega) (by omega)) c_123)
                      have n_123 := Int32.not_lt.mpr c_123
                      refine lv_ldc2 hx hb hown (hG.hts h0 _ _ wnl_L_87) dL_digest_147 ?_
                      refine lv_lload_n hx hb dL_digest_150 rfl (lv_at hl 1 rfl) ?_
                      refine lv_lmul hx hb dL_digest_151 ?_
                      refine lv_aload_n hx hb dL_digest_152 rfl (lv_at hl 0 rfl) ?_
                      refine lv_iload_n hx hb dL_digest_153 rfl (lv_at hl 2 rfl) ?_
                      refine core_p (v := .int (σ.1.1 6 r)) (grV (n := 1) (As := [.int (nI r)]) (rest := [.long (31 * (dg (roofV σ.1 r) (dgR σ.1 (dg2 σ.1) r) 9))]) h0 hF (m_X9_debt h0 (cm := cm) (o := o) (σ := σ) hO (nI r) r rfl (by omega)) wm_L_101 wo_X9_debt ws_X9__X9_debt wz_X9 wc_X9_debt ⟨by decide, by decide, by decide +kernel⟩ rfl ⟨Nat.le_of_ble_eq_true rfl, Nat.le_of_ble_eq_true rfl⟩ (ci := 8) (SBH.rec hB) rfl hB hS noA_old ⟨Nat.zero_le _, Nat.zero_le _⟩ hl.1 rfl (Nat.le_of_ble_eq_true rfl) dL_digest_154) ?_
                      refine lv_i2l (v := (σ.1.1 6 r).toInt64) hx hb dL_digest_157 (rfl) ?_
                      refine lv_ladd hx hb dL_digest_158 ?_
                      refine lv_lstore_n (lv' := [(1, .long ((31 * (dg (roofV σ.1 r) (dgR σ.1 (dg2 σ.1) r) 9)) + ((σ.1.1 6 r).toInt64))), (0, .ref o), (3, .int (nI r)), (4, .int (nI 9))]) hx hb dL_digest_159 rfl hl (by decide) rfl (fun ls hl => ?_)
                      refine lv_iinc (v := nI (r + 1)) (lv' := [(3, .int (nI (r + 1))), (1, .long ((31 * (dg (roofV σ.1 r) (dgR σ.1 (dg2 σ.1) r) 9)) + ((σ.1.1 6 r).toInt64))), (0, .ref o), (4, .int (nI 9))]) hx hb dL_digest_160 hl (k := 2) rfl (nI_1 r) (by decide) rfl (fun ls hl => ?_)
                      refine lv_goto (tgt := 107) hx hb dL_digest_163 (by decide) ?_
                      refine ih_107 (r + 1) (by omega) ls (lv_eqv (lv_sub (l' := [(0, .ref o), (1, .long ((31 * (dg (roofV σ.1 r) (dgR σ.1 (dg2 σ.1) r) 9)) + ((σ.1.1 6 r).toInt64))), (3, .int (nI (r + 1)))]) hl [2, 1, 0] rfl) ?_)
                      rw [show ((31 * (dg (roofV σ.1 r) (dgR σ.1 (dg2 σ.1) r) 9)) + ((σ.1.1 6 r).toInt64)) = (dgR σ.1 (dg2 σ.1) (r + 1)) from (dgR_s _ _ _)]
                    | succ nf ih_119 =>
                      intro u hu ls hl
                      have hu_l : u < 9 := by omega
                      refine lv_iload hx hb dL_digest_119 (lv_at hl 3 rfl) ?_
                      refine lv_bipush (v := 9) hx hb dL_digest_121 (by decide) ?_
                      refine lv_icmp_ge (tgt := 147) hx hb dL_digest_123 (by decide) (fun c_123 => absurd c_123 (nI_ge (a := u) (b := 9) (by omega) (by omega))) (fun c_123 => ?_)
                      have n_123 := Int32.not_le.mp c_123
                      refine lv_ldc2 hx hb hown (hG.hts h0 _ _ wnl_L_87) dL_digest_126 ?_
                      refine lv_lload_n hx hb dL_digest_129 rfl (lv_at hl 1 rfl) ?_
                      refine lv_lmul hx hb dL_digest_130 ?_
                      refine lv_aload_n hx hb dL_digest_131 rfl (lv_at hl 0 rfl) ?_
                      refine lv_iload_n hx hb dL_digest_132 rfl (lv_at hl 2 rfl) ?_
                      refine lv_iload hx hb dL_digest_133 (lv_at hl 3 rfl) ?_
                      refine core_p (v := .int (roofV σ.1 r u)) (run_X9_roofOf h0 hF (cm := cm) (σ := σ) hO hB u hu_l (nI r) r rfl (by omega) ⟨Nat.le_of_ble_eq_true rfl, Nat.le_of_ble_eq_true rfl⟩ (rest := [.long (31 * (dg (roofV σ.1 r) (dgR σ.1 (dg2 σ.1) r) u))]) wm_L_98 hS noA_old ⟨Nat.zero_le _, Nat.zero_le _⟩ hl.1 (Nat.le_of_ble_eq_true rfl) dL_digest_135) ?_
                      refine lv_i2l (v := (roofV σ.1 r u).toInt64) hx hb dL_digest_138 (rfl) ?_
                      refine lv_ladd hx hb dL_digest_139 ?_
                      refine lv_lstore_n (lv' := [(1, .long ((31 * (dg (roofV σ.1 r) (dgR σ.1 (dg2 σ.1) r) u)) + ((roofV σ.1 r u).toInt64))), (0, .ref o), (3, .int (nI r)), (4, .int (nI u))]) hx hb dL_digest_140 rfl hl (by decide) rfl (fun ls hl => ?_)
                      refine lv_iinc (v := nI (u + 1)) (lv' := [(4, .int (nI (u + 1))), (1, .long ((31 * (dg (roofV σ.1 r) (dgR σ.1 (dg2 σ.1) r) u)) + ((roofV σ.1 r u).toInt64))), (0, .ref o), (3, .int (nI r))]) hx hb dL_digest_141 hl (k := 3) rfl (nI_1 u) (by decide) rfl (fun ls hl => ?_)
                      refine lv_goto (tgt := 119) hx hb dL_digest_144 (by decide) ?_
                      refine ih_119 (u + 1) (by omega) ls (lv_eqv (lv_sub (l' := [(0, .ref o), (1, .long ((31 * (dg (roofV σ.1 r) (dgR σ.1 (dg2 σ.1) r) u)) + ((roofV σ.1 r u).toInt64))), (3, .int (nI r)), (4, .int (nI (u + 1)))]) hl [2, 1, 3, 0] rfl) ?_)
                      rw [show ((31 * (dg (roofV σ.1 r) (dgR σ.1 (dg2 σ.1) r) u)) + ((roofV σ.1 r u).toInt64)) = (dg (roofV σ.1 r) (dgR σ.1 (dg2 σ.1) r) (u + 1)) from (dg_s _ _ _)]
                  refine key_119 (9) 0 (by omega) ls (lv_eqv (lv_sub (l' := [(0, .ref o), (1, .long (dgR σ.1 (dg2 σ.1) r)), (3, .int (nI r)), (4, .int 0)]) hl [1, 2, 3, 0] rfl) ?_)
                  rw [dg_0]; rfl
              refine key_107 (σ.1.2 1) 0 (by omega) ls (lv_eqv (lv_sub (l' := [(0, .ref o), (1, .long (dgS σ.1 (dg1 σ.1) (σ.1.2 0))), (3, .int 0)]) hl [1, 2, 0] rfl) ?_)
              rw [dgR_0, dg2]; rfl
            | succ nf ih_59 =>
              intro i hi ls hl
              have hi_l : i < σ.1.2 0 := by omega
              refine lv_iload_n hx hb dL_digest_59 rfl (lv_at hl 2 rfl) ?_
              refine lv_aload_n hx hb dL_digest_60 rfl (lv_at hl 0 rfl) ?_
              refine lv_iconst (v := 0) hx hb dL_digest_61 (by decide) ?_
              refine core_p (v := .int (nI (σ.1.2 0))) (grV (n := 1) (As := [.int 0]) (rest := [.int (nI i)]) h0 hF (m_X9_account_0 h0 (cm := cm) (o := o) (σ := σ) hO) wm_L_89 wo_X9_account ws_X9__X9_account wz_X9 wc_X9_account ⟨by decide, by decide, by decide +kernel⟩ rfl ⟨Nat.le_of_ble_eq_true rfl, Nat.le_of_ble_eq_true rfl⟩ (ci := 8) (SBH.rec hB) rfl hB hS noA_old ⟨Nat.zero_le _, Nat.zero_le _⟩ hl.1 rfl (Nat.le_of_ble_eq_true rfl) dL_digest_62) ?_
              refine lv_icmp_ge (tgt := 105) hx hb dL_digest_65 (by decide) (fun c_65 => absurd c_65 (nI_ge (a := i) (b := σ.1.2 0) (by omega) (by omega))) (fun c_65 => ?_)
              have n_65 := Int32.not_le.mp c_65
              refine lv_iconst (v := 0) hx hb dL_digest_68 (by decide) ?_
              refine lv_istore (lv' := [(4, .int 0), (0, .ref o), (1, .long (dgS σ.1 (dg1 σ.1) i)), (3, .int (nI i))]) hx hb dL_digest_69 hl (by decide) rfl (fun ls hl => ?_)
              have key_71 : ∀ (nf w : Nat), w + nf = 6 → ∀ (ls : Array Slot), lv_has ls 5 [(0, .ref o), (1, .long (dg (starV σ.1 i) (dgS σ.1 (dg1 σ.1) i) w)), (3, .int (nI i)), (4, .int (nI w))] → W p l e ({ frames := 3, cells := 0, slots := 0, locals := 67 } : Room) s m ([.ref o] : List Value).toArray below meth c s.heap [] 0 0 (MQ below (qP (.long (digV σ.1))) ([.ref o] : List Value).toArray s 0 0 noA) (F0 m 71 ls []) := by
                intro nf
                induction nf with
                | zero =>
                  intro w hw ls hl
                  have hw_e : w = 6 := by omega
                  subst hw_e
                  refine lv_iload hx hb dL_digest_71 (lv_at hl 3 rfl) ?_
                  refine lv_bipush (v := 6) hx hb dL_digest_73 (by decide) ?_
                  refine lv_icmp_ge (tgt := 99) hx hb dL_digest_75 (by decide) (fun c_75 => ?_) (fun c_75 => absurd (nI_le (a := 6) (b := 6) (by omega) (by omega)) c_75)
                  have n_75 := Int32.not_lt.mpr c_75
                  refine lv_iinc (v := nI (i + 1)) (lv' := [(3, .int (nI (i + 1))), (0, .ref o), (1, .long (dg (starV σ.1 i) (dgS σ.1 (dg1 σ.1) i) 6)), (4, .int (nI 6))]) hx hb dL_digest_99 hl (k := 2) rfl (nI_1 i) (by decide) rfl (fun ls hl => ?_)
                  refine lv_goto (tgt := 59) hx hb dL_digest_102 (by decide) ?_
                  refine ih_59 (i + 1) (by omega) ls (lv_eqv (lv_sub (l' := [(0, .ref o), (1, .long (dg (starV σ.1 i) (dgS σ.1 (dg1 σ.1) i) 6)), (3, .int (nI (i + 1)))]) hl [1, 2, 0] rfl) ?_)
                  rw [show (dg (starV σ.1 i) (dgS σ.1 (dg1 σ.1) i) 6) = (dgS σ.1 (dg1 σ.1) (i + 1)) from (dgS_s _ _ _)]
                | succ nf ih_71 =>
                  intro w hw ls hl
                  have hw_l : w < 6 := by omega
                  refine lv_iload hx hb dL_digest_71 (lv_at hl 3 rfl) ?_
                  refine lv_bipush (v := 6) hx hb dL_digest_73 (by decide) ?_
                  refine lv_icmp_ge (tgt := 99) hx hb dL_digest_75 (by decide) (fun c_75 => absurd c_75 (nI_ge (a := w) (b := 6) (by omega) (by omega))) (fun c_75 => ?_)
                  have n_75 := Int32.not_le.mp c_75
                  refine lv_ldc2 hx hb hown (hG.hts h0 _ _ wnl_L_87) dL_digest_78 ?_
                  refine lv_lload_n hx hb dL_digest_81 rfl (lv_at hl 1 rfl) ?_
                  refine lv_lmul hx hb dL_digest_82 ?_
                  refine lv_aload_n hx hb dL_digest_83 rfl (lv_at hl 0 rfl) ?_
                  refine lv_iload_n hx hb dL_digest_84 rfl (lv_at hl 2 rfl) ?_
                  refine lv_iload hx hb dL_digest_85 (lv_at hl 3 rfl) ?_
                  refine core_p (v := .int (starV σ.1 i w)) (run_X9_starOf h0 hF (cm := cm) (σ := σ) hO hB w hw_l (nI i) i rfl (by omega) ⟨Nat.le_of_ble_eq_true rfl, Nat.le_of_ble_eq_true rfl⟩ (rest := [.long (31 * (dg (starV σ.1 i) (dgS σ.1 (dg1 σ.1) i) w))]) wm_L_95 hS noA_old ⟨Nat.zero_le _, Nat.zero_le _⟩ hl.1 (Nat.le_of_ble_eq_true rfl) dL_digest_87) ?_
                  refine lv_i2l (v := (starV σ.1 i w).toInt64) hx hb dL_digest_90 (rfl) ?_
                  refine lv_ladd hx hb dL_digest_91 ?_
                  refine lv_lstore_n (lv' := [(1, .long ((31 * (dg (starV σ.1 i) (dgS σ.1 (dg1 σ.1) i) w)) + ((starV σ.1 i w).toInt64))), (0, .ref o), (3, .int (nI i)), (4, .int (nI w))]) hx hb dL_digest_92 rfl hl (by decide) rfl (fun ls hl => ?_)
                  refine lv_iinc (v := nI (w + 1)) (lv' := [(4, .int (nI (w + 1))), (1, .long ((31 * (dg (starV σ.1 i) (dgS σ.1 (dg1 σ.1) i) w)) + ((starV σ.1 i w).toInt64))), (0, .ref o), (3, .int (nI i))]) hx hb dL_digest_93 hl (k := 3) rfl (nI_1 w) (by decide) rfl (fun ls hl => ?_)
                  refine lv_goto (tgt := 71) hx hb dL_digest_96 (by decide) ?_
                  refine ih_71 (w + 1) (by omega) ls (lv_eqv (lv_sub (l' := [(0, .ref o), (1, .long ((31 * (dg (starV σ.1 i) (dgS σ.1 (dg1 σ.1) i) w)) + ((starV σ.1 i w).toInt64))), (3, .int (nI i)), (4, .int (nI (w + 1)))]) hl [2, 1, 3, 0] rfl) ?_)
                  rw [show ((31 * (dg (starV σ.1 i) (dgS σ.1 (dg1 σ.1) i) w)) + ((starV σ.1 i w).toInt64)) = (dg (starV σ.1 i) (dgS σ.1 (dg1 σ.1) i) (w + 1)) from (dg_s _ _ _)]
              refine key_71 (6) 0 (by omega) ls (lv_eqv (lv_sub (l' := [(0, .ref o), (1, .long (dgS σ.1 (dg1 σ.1) i)), (3, .int (nI i)), (4, .int 0)]) hl [1, 2, 3, 0] rfl) ?_)
              rw [dg_0]; rfl
          refine key_59 (σ.1.2 0) 0 (by omega) ls (lv_eqv (lv_sub (l' := [(0, .ref o), (1, .long (dg (σ.1.1 4) (dg0 σ.1) 4)), (3, .int 0)]) hl [1, 2, 0] rfl) ?_)
          rw [dgS_0, dg1]; rfl
        | succ nf ih_33 =>
          intro d hd ls hl
          have hd_l : d < 4 := by omega
          refine lv_iload_n hx hb dL_digest_33 rfl (lv_at hl 2 rfl) ?_
          refine lv_iconst (v := 4) hx hb dL_digest_34 (by decide) ?_
          refine lv_icmp_ge (tgt := 57) hx hb dL_digest_35 (by decide) (fun c_35 => absurd c_35 (nI_ge (a := d) (b := 4) (by omega) (by omega))) (fun c_35 => ?_)
          have n_35 := Int32.not_le.mp c_35
          refine lv_ldc2 hx hb hown (hG.hts h0 _ _ wnl_L_87) dL_digest_38 ?_
          refine lv_lload_n hx hb dL_digest_41 rfl (lv_at hl 1 rfl) ?_
          refine lv_lmul hx hb dL_digest_42 ?_
          refine lv_aload_n hx hb dL_digest_43 rfl (lv_at hl 0 rfl) ?_
          refine lv_iload_n hx hb dL_digest_44 rfl (lv_at hl 2 rfl) ?_
          refine core_p (v := .int (σ.1.1 4 d)) (grV (n := 1) (As := [.int (nI d)]) (rest := [.long (31 * (dg (σ.1.1 4) (dg0 σ.1) d))]) h0 hF (m_X9_cloudOf h0 (cm := cm) (o := o) (σ := σ) hO (nI d) d rfl (by omega)) wm_L_92 wo_X9_cloudOf ws_X9__X9_cloudOf wz_X9 wc_X9_cloudOf ⟨by decide, by decide, by decide +kernel⟩ rfl ⟨Nat.le_of_ble_eq_true rfl, Nat.le_of_ble_eq_true rfl⟩ (ci := 8) (SBH.rec hB) rfl hB hS noA_old ⟨Nat.zero_le _, Nat.zero_le _⟩ hl.1 rfl (Nat.le_of_ble_eq_true rfl) dL_digest_45) ?_
          refine lv_i2l (v := (σ.1.1 4 d).toInt64) hx hb dL_digest_48 (rfl) ?_
          refine lv_ladd hx hb dL_digest_49 ?_
          refine lv_lstore_n (lv' := [(1, .long ((31 * (dg (σ.1.1 4) (dg0 σ.1) d)) + ((σ.1.1 4 d).toInt64))), (0, .ref o), (3, .int (nI d))]) hx hb dL_digest_50 rfl hl (by decide) rfl (fun ls hl => ?_)
          refine lv_iinc (v := nI (d + 1)) (lv' := [(3, .int (nI (d + 1))), (1, .long ((31 * (dg (σ.1.1 4) (dg0 σ.1) d)) + ((σ.1.1 4 d).toInt64))), (0, .ref o)]) hx hb dL_digest_51 hl (k := 2) rfl (nI_1 d) (by decide) rfl (fun ls hl => ?_)
          refine lv_goto (tgt := 33) hx hb dL_digest_54 (by decide) ?_
          refine ih_33 (d + 1) (by omega) ls (lv_eqv (lv_sub (l' := [(0, .ref o), (1, .long ((31 * (dg (σ.1.1 4) (dg0 σ.1) d)) + ((σ.1.1 4 d).toInt64))), (3, .int (nI (d + 1)))]) hl [2, 1, 0] rfl) ?_)
          rw [show ((31 * (dg (σ.1.1 4) (dg0 σ.1) d)) + ((σ.1.1 4 d).toInt64)) = (dg (σ.1.1 4) (dg0 σ.1) (d + 1)) from (dg_s _ _ _)]
      refine key_33 (4) 0 (by omega) ls (lv_eqv (lv_sub (l' := [(0, .ref o), (1, .long (dg (accV σ.1) 7 12)), (3, .int 0)]) hl [1, 2, 0] rfl) ?_)
      rw [dg_0, dg0]; rfl
    | succ nf ih_6 =>
      intro a ha ls hl
      have ha_l : a < 12 := by omega
      refine lv_iload_n hx hb dL_digest_6 rfl (lv_at hl 2 rfl) ?_
      refine lv_bipush (v := 12) hx hb dL_digest_7 (by decide) ?_
      refine lv_icmp_ge (tgt := 31) hx hb dL_digest_9 (by decide) (fun c_9 => absurd c_9 (nI_ge (a := a) (b := 12) (by omega) (by omega))) (fun c_9 => ?_)
      have n_9 := Int32.not_le.mp c_9
      refine lv_ldc2 hx hb hown (hG.hts h0 _ _ wnl_L_87) dL_digest_12 ?_
      refine lv_lload_n hx hb dL_digest_15 rfl (lv_at hl 1 rfl) ?_
      refine lv_lmul hx hb dL_digest_16 ?_
      refine lv_aload_n hx hb dL_digest_17 rfl (lv_at hl 0 rfl) ?_
      refine lv_iload_n hx hb dL_digest_18 rfl (lv_at hl 2 rfl) ?_
      refine core_p (v := .int (accV σ.1 a)) (run_X9_account h0 hF (cm := cm) (σ := σ) hO hB a ha_l ⟨Nat.le_of_ble_eq_true rfl, Nat.le_of_ble_eq_true rfl⟩ (rest := [.long (31 * (dg (accV σ.1) 7 a))]) wm_L_89 hS noA_old ⟨Nat.zero_le _, Nat.zero_le _⟩ hl.1 (Nat.le_of_ble_eq_true rfl) dL_digest_19) ?_
      refine lv_i2l (v := (accV σ.1 a).toInt64) hx hb dL_digest_22 (rfl) ?_
      refine lv_ladd hx hb dL_digest_23 ?_
      refine lv_lstore_n (lv' := [(1, .long ((31 * (dg (accV σ.1) 7 a)) + ((accV σ.1 a).toInt64))), (0, .ref o), (3, .int (nI a))]) hx hb dL_digest_24 rfl hl (by decide) rfl (fun ls hl => ?_)
      refine lv_iinc (v := nI (a + 1)) (lv' := [(3, .int (nI (a + 1))), (1, .long ((31 * (dg (accV σ.1) 7 a)) + ((accV σ.1 a).toInt64))), (0, .ref o)]) hx hb dL_digest_25 hl (k := 2) rfl (nI_1 a) (by decide) rfl (fun ls hl => ?_)
      refine lv_goto (tgt := 6) hx hb dL_digest_28 (by decide) ?_
      refine ih_6 (a + 1) (by omega) ls (lv_eqv (lv_sub (l' := [(0, .ref o), (1, .long ((31 * (dg (accV σ.1) 7 a)) + ((accV σ.1 a).toInt64))), (3, .int (nI (a + 1)))]) hl [2, 1, 0] rfl) ?_)
      rw [show ((31 * (dg (accV σ.1) 7 a)) + ((accV σ.1 a).toInt64)) = (dg (accV σ.1) 7 (a + 1)) from (dg_s _ _ _)]
  refine key_6 (12) 0 (by omega) ls (lv_eqv (lv_sub (l' := [(0, .ref o), (1, .long 7), (3, .int 0)]) hl [2, 1, 0] rfl) ?_)
  rw [dg_0]; rfl

theorem bI_n1 {b : Bool} (h : ¬ bI b = 1) : 0 = bI b := by cases b; rfl; exact absurd rfl h
theorem cN_b (p : Nat → Bool) (n : Nat) : nI (cN p n) + bI (p n) = nI (cN p (n + 1)) := by
  show _ = nI (cN p n + if p n then 1 else 0)
  unfold bI
  cases p n
  · exact (Int32.add_zero _)
  · exact nI_1 _
theorem cN_not (p : Nat → Bool) (n : Nat) : nI (cN (fun z => !p z) n) = nI n - nI (cN p n) := by
  have h : cN (fun z => !p z) n + cN p n = n := by
    induction n with
    | zero => rfl
    | succ n ih =>
      unfold cN
      cases hp : p n <;> simp [hp] <;> omega
  have h2 : nI (cN (fun z => !p z) n) + nI (cN p n) = nI n := by
    rw [nI_add, h]
  rw [← h2]
  grind
theorem dM_t {k : Sk} {d z : Nat} (h : k.1 1 z = nI d) : (if dM k d z < k.1 4 d + 1 - k.1 0 z then k.1 4 d + 1 - k.1 0 z else dM k d z) = dM k d (z + 1) := by
  have e : k.1 4 d + 1 - k.1 0 z = k.1 4 d - k.1 0 z + 1 := by grind
  rw [e]
  show _ = if k.1 1 z = nI d then _ else _
  rw [if_pos h]
theorem dM_f {k : Sk} {d z : Nat} (h : ¬ k.1 1 z = nI d) : dM k d z = dM k d (z + 1) := by
  show _ = if k.1 1 z = nI d then _ else _
  rw [if_neg h]
theorem dc_n : ∀ n, n < 37 → Op.cmpValue (FP.dcmp (FP.ddiv (FP.i2d (nI n)) 4616189618054758400) (FP.ddiv (FP.i2d (nI n)) 4616189618054758400)) .l = 0 := by decide +kernel
theorem dc_ok {x : Int32} {n : Nat} (h : x = nI n) (hn : n < 37) : Op.cmpValue (FP.dcmp (FP.ddiv (FP.i2d x) 4616189618054758400) (FP.ddiv (FP.i2d x) 4616189618054758400)) .l = 0 := by rw [h]; exact dc_n n hn

set_option maxHeartbeats 4000000 in
set_option maxRecDepth 100000 in
theorem m_L_areStars {X : Cx} {l : Launch} (h0 : Init X) {cm : Nat → Nat} {o : Nat} {σ : Sb} (hO : Ok σ.1) (hOc : Okc σ.1) (hW : Well σ.1) (hEx : ¬ sI (σ.1.1 3) (σ.1.2 0) < σ.1.1 19 1) : MM X l yL_areStars cL_areStars 10 (some .boolean) 8 192 44 5720 [.ref o] (SBH X cm o σ) (fun v H => v = some (.int 1) ∧ SBH X cm o σ H) (gA X) := by
  refine Met.mk (Bh := (SBH X cm o σ)) (by decide) (Nat.le_of_ble_eq_true rfl) ?_
  intro p e s m below meth c ls hF hB hl
  have hl : lv_has ls 10 [(0, .ref o)] := hl
  obtain ⟨hx, hb, hml, hr, hlk, hown, hG⟩ := id hF
  have hK := hG.K h0
  have hS : va_S (gA X) s.heap s.heap [] := va_S.rf
  have hAo : ∀ q, q < X.z → ¬ gA X q := fun q h9 (h8 : X.z ≤ q) => by omega
  have hO1 := hO.1
  have hO2 := hO.2.1
  have hO3 := hO.2.2.1
  refine lv_iconst (v := 0) hx hb dL_areStars_0 (by decide) ?_
  refine lv_istore_n (lv' := [(1, .int 0), (0, .ref o)]) hx hb dL_areStars_1 rfl hl (by decide) rfl (fun ls hl => ?_)
  refine lv_iconst (v := 0) hx hb dL_areStars_2 (by decide) ?_
  refine lv_istore_n (lv' := [(2, .int 0), (1, .int 0), (0, .ref o)]) hx hb dL_areStars_3 rfl hl (by decide) rfl (fun ls hl => ?_)
  refine lv_iconst (v := 0) hx hb dL_areStars_4 (by decide) ?_
  refine lv_istore_n (lv' := [(3, .int 0), (2, .int 0), (1, .int 0), (0, .ref o)]) hx hb dL_areStars_5 rfl hl (by decide) rfl (fun ls hl => ?_)
  refine lv_iconst (v := 1) hx hb dL_areStars_6 (by decide) ?_
  refine lv_istore (lv' := [(4, .int 1), (3, .int 0), (2, .int 0), (1, .int 0), (0, .ref o)]) hx hb dL_areStars_7 hl (by decide) rfl (fun ls hl => ?_)
  refine lv_iconst (v := 0) hx hb dL_areStars_9 (by decide) ?_
  refine lv_istore (lv' := [(5, .int 0), (4, .int 1), (3, .int 0), (2, .int 0), (1, .int 0), (0, .ref o)]) hx hb dL_areStars_10 hl (by decide) rfl (fun ls hl => ?_)
  have key_12 : ∀ (nf i : Nat), i + nf = σ.1.2 0 → ∀ (ls : Array Slot), lv_has ls 10 [(0, .ref o), (1, .int (nI (cN (fun z => !decide (σ.1.1 2 z = -4)) i))), (2, .int (sI (σ.1.1 3) i)), (3, .int 0), (4, .int 1), (5, .int (nI i))] → W p l e ({ frames := 8, cells := 44, slots := 5720, locals := 192 } : Room) s m ([.ref o] : List Value).toArray below meth c s.heap [] 0 0 (MQ below (qM (fun v H => v = some (.int 1) ∧ SBH X cm o σ H) (gA X)) ([.ref o] : List Value).toArray s 44 5720 (gA X)) (F0 m 12 ls []) := by
    intro nf
    induction nf with
    | zero =>
      intro i hi ls hl
      have hi_e : i = σ.1.2 0 := by omega
      subst hi_e
      refine lv_iload hx hb dL_areStars_12 (lv_at hl 4 rfl) ?_
      refine lv_if_eq (tgt := 189) hx hb dL_areStars_14 (by decide) (fun c_14 => absurd c_14 (by decide)) (fun c_14 => ?_)
      refine lv_iload hx hb dL_areStars_17 (lv_at hl 5 rfl) ?_
      refine lv_aload_n hx hb dL_areStars_19 rfl (lv_at hl 0 rfl) ?_
      refine lv_iconst (v := 0) hx hb dL_areStars_20 (by decide) ?_
      refine core_p (v := .int (nI (σ.1.2 0))) (grV (n := 1) (As := [.int 0]) (rest := [.int (nI (σ.1.2 0))]) h0 hF (m_X9_account_0 h0 (cm := cm) (o := o) (σ := σ) hO) wm_L_89 wo_X9_account ws_X9__X9_account wz_X9 wc_X9_account ⟨by decide, by decide, by decide +kernel⟩ rfl ⟨Nat.le_of_ble_eq_true rfl, Nat.le_of_ble_eq_true rfl⟩ (ci := 8) (SBH.rec hB) rfl hB hS hAo ⟨Nat.le_of_ble_eq_true rfl, Nat.le_of_ble_eq_true rfl⟩ hl.1 rfl (Nat.le_of_ble_eq_true rfl) dL_areStars_21) ?_
      refine lv_icmp_ge (tgt := 189) hx hb dL_areStars_24 (by decide) (fun c_24 => ?_) (fun c_24 => absurd (nI_le (a := σ.1.2 0) (b := σ.1.2 0) (by omega) (by omega)) c_24)
      have n_24 := Int32.not_lt.mpr c_24
      refine lv_iconst (v := 0) hx hb dL_areStars_189 (by decide) ?_
      refine lv_istore (lv' := [(5, .int 0), (0, .ref o), (1, .int (nI (cN (fun z => !decide (σ.1.1 2 z = -4)) (σ.1.2 0)))), (2, .int (sI (σ.1.1 3) (σ.1.2 0))), (3, .int 0), (4, .int 1)]) hx hb dL_areStars_190 hl (by decide) rfl (fun ls hl => ?_)
      have key_192 : ∀ (nf d : Nat), d + nf = 4 → ∀ (H : Heap) (locs : List Loc), SBH X cm o σ H → va_S (gA X) s.heap H locs → ∀ (ls : Array Slot), lv_has ls 10 [(0, .ref o), (1, .int (nI (cN (fun z => !decide (σ.1.1 2 z = -4)) (σ.1.2 0)))), (2, .int (sI (σ.1.1 3) (σ.1.2 0))), (3, .int (sI (σ.1.1 4) d)), (4, .int 1), (5, .int (nI d))] → W p l e ({ frames := 8, cells := 44, slots := 5720, locals := 192 } : Room) s m ([.ref o] : List Value).toArray below meth c H locs (11 * d) (1430 * d) (MQ below (qM (fun v H => v = some (.int 1) ∧ SBH X cm o σ H) (gA X)) ([.ref o] : List Value).toArray s 44 5720 (gA X)) (F0 m 192 ls []) := by
        intro nf
        induction nf with
        | zero =>
          intro d hd H locs hB hS ls hl
          have hd_e : d = 4 := by omega
          subst hd_e
          refine lv_iload hx hb dL_areStars_192 (lv_at hl 4 rfl) ?_
          refine lv_if_eq (tgt := 365) hx hb dL_areStars_194 (by decide) (fun c_194 => absurd c_194 (by decide)) (fun c_194 => ?_)
          refine lv_iload hx hb dL_areStars_197 (lv_at hl 5 rfl) ?_
          refine lv_iconst (v := 4) hx hb dL_areStars_199 (by decide) ?_
          refine lv_icmp_ge (tgt := 365) hx hb dL_areStars_200 (by decide) (fun c_200 => ?_) (fun c_200 => absurd (nI_le (a := 4) (b := 4) (by omega) (by omega)) c_200)
          have n_200 := Int32.not_lt.mpr c_200
          refine lv_iload hx hb dL_areStars_365 (lv_at hl 4 rfl) ?_
          refine lv_if_eq (tgt := 430) hx hb dL_areStars_367 (by decide) (fun c_367 => absurd c_367 (by decide)) (fun c_367 => ?_)
          refine lv_iload_n hx hb dL_areStars_370 rfl (lv_at hl 1 rfl) ?_
          refine lv_aload_n hx hb dL_areStars_371 rfl (lv_at hl 0 rfl) ?_
          refine lv_iconst (v := 4) hx hb dL_areStars_372 (by decide) ?_
          refine core_p (v := .int (accV σ.1 4)) (grV (n := 1) (As := [.int 4]) (rest := [.int (nI (cN (fun z => !decide (σ.1.1 2 z = -4)) (σ.1.2 0)))]) h0 hF (m_X9_account_4 h0 (cm := cm) (o := o) (σ := σ) hO) wm_L_89 wo_X9_account ws_X9__X9_account wz_X9 wc_X9_account ⟨by decide, by decide, by decide +kernel⟩ rfl ⟨Nat.le_of_ble_eq_true rfl, Nat.le_of_ble_eq_true rfl⟩ (ci := 8) (SBH.rec hB) rfl hB hS hAo ⟨Nat.le_of_ble_eq_true rfl, Nat.le_of_ble_eq_true rfl⟩ hl.1 rfl (Nat.le_of_ble_eq_true rfl) dL_areStars_373) ?_
          refine lv_icmp_ne (tgt := 430) hx hb dL_areStars_376 (by decide) (fun c_376 => absurd (cN_not (fun z => decide (σ.1.1 2 z = -4)) _) c_376) (fun c_376 => ?_)
          refine lv_iload_n hx hb dL_areStars_379 rfl (lv_at hl 2 rfl) ?_
          refine lv_aload_n hx hb dL_areStars_380 rfl (lv_at hl 0 rfl) ?_
          refine lv_bipush (v := 6) hx hb dL_areStars_381 (by decide) ?_
          refine core_p (v := .int (sI (σ.1.1 3) (σ.1.2 0))) (grV (n := 1) (As := [.int 6]) (rest := [.int (sI (σ.1.1 3) (σ.1.2 0))]) h0 hF (m_X9_account_6 h0 (cm := cm) (o := o) (σ := σ) hO) wm_L_89 wo_X9_account ws_X9__X9_account wz_X9 wc_X9_account ⟨by decide, by decide, by decide +kernel⟩ rfl ⟨Nat.le_of_ble_eq_true rfl, Nat.le_of_ble_eq_true rfl⟩ (ci := 8) (SBH.rec hB) rfl hB hS hAo ⟨Nat.le_of_ble_eq_true rfl, Nat.le_of_ble_eq_true rfl⟩ hl.1 rfl (Nat.le_of_ble_eq_true rfl) dL_areStars_383) ?_
          refine lv_icmp_ne (tgt := 430) hx hb dL_areStars_386 (by decide) (fun c_386 => absurd rfl c_386) (fun c_386 => ?_)
          refine lv_aload_n hx hb dL_areStars_389 rfl (lv_at hl 0 rfl) ?_
          refine lv_bipush (v := 7) hx hb dL_areStars_390 (by decide) ?_
          refine core_p (v := .int (σ.1.1 19 1)) (grV (n := 1) (As := [.int 7]) (rest := []) h0 hF (m_X9_account_7 h0 (cm := cm) (o := o) (σ := σ) hO) wm_L_89 wo_X9_account ws_X9__X9_account wz_X9 wc_X9_account ⟨by decide, by decide, by decide +kernel⟩ rfl ⟨Nat.le_of_ble_eq_true rfl, Nat.le_of_ble_eq_true rfl⟩ (ci := 8) (SBH.rec hB) rfl hB hS hAo ⟨Nat.le_of_ble_eq_true rfl, Nat.le_of_ble_eq_true rfl⟩ hl.1 rfl (Nat.le_of_ble_eq_true rfl) dL_areStars_392) ?_
          refine lv_aload_n hx hb dL_areStars_395 rfl (lv_at hl 0 rfl) ?_
          refine lv_bipush (v := 6) hx hb dL_areStars_396 (by decide) ?_
          refine core_p (v := .int (sI (σ.1.1 3) (σ.1.2 0))) (grV (n := 1) (As := [.int 6]) (rest := [.int (σ.1.1 19 1)]) h0 hF (m_X9_account_6 h0 (cm := cm) (o := o) (σ := σ) hO) wm_L_89 wo_X9_account ws_X9__X9_account wz_X9 wc_X9_account ⟨by decide, by decide, by decide +kernel⟩ rfl ⟨Nat.le_of_ble_eq_true rfl, Nat.le_of_ble_eq_true rfl⟩ (ci := 8) (SBH.rec hB) rfl hB hS hAo ⟨Nat.le_of_ble_eq_true rfl, Nat.le_of_ble_eq_true rfl⟩ hl.1 rfl (Nat.le_of_ble_eq_true rfl) dL_areStars_398) ?_
          refine lv_icmp_gt (tgt := 430) hx hb dL_areStars_401 (by decide) (fun c_401 => absurd c_401 hEx) (fun c_401 => ?_)
          have n_401 := Int32.not_lt.mp c_401
          refine lv_aload_n hx hb dL_areStars_404 rfl (lv_at hl 0 rfl) ?_
          refine core_p (v := .double (FP.ddiv (FP.i2d (sI (σ.1.1 4) 4)) 4616189618054758400)) (grV (n := 0) (As := []) (rest := []) h0 hF (m_X9_meanCloud h0 (cm := cm) (o := o) (σ := σ) hOc ) wm_L_127 wo_X9_meanCloud ws_X9__X9_meanCloud wz_X9 wc_X9_meanCloud ⟨by decide, by decide, by decide +kernel⟩ rfl ⟨Nat.le_of_ble_eq_true rfl, Nat.le_of_ble_eq_true rfl⟩ (ci := 8) (SBH.rec hB) rfl hB hS hAo ⟨Nat.le_of_ble_eq_true rfl, Nat.le_of_ble_eq_true rfl⟩ hl.1 rfl (Nat.le_of_ble_eq_true rfl) dL_areStars_405) ?_
          refine lv_iload_n hx hb dL_areStars_408 rfl (lv_at hl 3 rfl) ?_
          refine lv_i2d hx hb dL_areStars_409 ?_
          refine lv_ldc2d hx hb hown (hG.hts h0 _ _ wnd_L_131) dL_areStars_410 ?_
          refine lv_ddiv hx hb dL_areStars_413 (by rw [(sI_cl hOc).1]; exact nn_d _ (sI_cl hOc).2) ?_
          refine lv_dcmp hx hb dL_areStars_414 ?_
          refine lv_topE (y := 0) (dc_ok (sI_cl hOc).1 (sI_cl hOc).2) ?_
          refine lv_if_ne (tgt := 430) hx hb dL_areStars_415 (by decide) (fun c_415 => absurd c_415 (by decide)) (fun c_415 => ?_)
          refine lv_aload_n hx hb dL_areStars_418 rfl (lv_at hl 0 rfl) ?_
          refine core_p (v := .int 1) (grV (n := 0) (As := []) (rest := []) h0 hF (m_X9_isWell h0 (cm := cm) (o := o) (σ := σ) hO hOc hW ) wm_L_133 wo_X9_isWell ws_X9__X9_isWell wz_X9 wc_X9_isWell ⟨by decide, by decide, by decide +kernel⟩ rfl ⟨Nat.le_of_ble_eq_true rfl, Nat.le_of_ble_eq_true rfl⟩ (ci := 8) (SBH.rec hB) rfl hB hS hAo ⟨Nat.le_of_ble_eq_true rfl, Nat.le_of_ble_eq_true rfl⟩ hl.1 rfl (Nat.le_of_ble_eq_true rfl) dL_areStars_419) ?_
          refine lv_iconst (v := 1) hx hb dL_areStars_422 (by decide) ?_
          refine lv_icmp_ne (tgt := 430) hx hb dL_areStars_423 (by decide) (fun c_423 => absurd c_423 (by decide)) (fun c_423 => ?_)
          refine lv_iconst (v := 1) hx hb dL_areStars_426 (by decide) ?_
          refine lv_goto (tgt := 431) hx hb dL_areStars_427 (by decide) ?_
          refine W.widen (k := 44) (n := 5720) (by omega) (by omega) ?_
          exact mm_zret hF hS dL_areStars_431 rfl (⟨rfl, hB⟩)
        | succ nf ih_192 =>
          intro d hd H locs hB hS ls hl
          have hd_l : d < 4 := by omega
          refine lv_iload hx hb dL_areStars_192 (lv_at hl 4 rfl) ?_
          refine lv_if_eq (tgt := 365) hx hb dL_areStars_194 (by decide) (fun c_194 => absurd c_194 (by decide)) (fun c_194 => ?_)
          refine lv_iload hx hb dL_areStars_197 (lv_at hl 5 rfl) ?_
          refine lv_iconst (v := 4) hx hb dL_areStars_199 (by decide) ?_
          refine lv_icmp_ge (tgt := 365) hx hb dL_areStars_200 (by decide) (fun c_200 => absurd c_200 (nI_ge (a := d) (b := 4) (by omega) (by omega))) (fun c_200 => ?_)
          have n_200 := Int32.not_le.mp c_200
          refine lv_iconst (v := 0) hx hb dL_areStars_203 (by decide) ?_
          refine lv_istore (lv' := [(6, .int 0), (0, .ref o), (1, .int (nI (cN (fun z => !decide (σ.1.1 2 z = -4)) (σ.1.2 0)))), (2, .int (sI (σ.1.1 3) (σ.1.2 0))), (3, .int (sI (σ.1.1 4) d)), (4, .int 1), (5, .int (nI d))]) hx hb dL_areStars_204 hl (by decide) rfl (fun ls hl => ?_)
          refine lv_iconst (v := 0) hx hb dL_areStars_206 (by decide) ?_
          refine lv_istore (lv' := [(7, .int 0), (6, .int 0), (0, .ref o), (1, .int (nI (cN (fun z => !decide (σ.1.1 2 z = -4)) (σ.1.2 0)))), (2, .int (sI (σ.1.1 3) (σ.1.2 0))), (3, .int (sI (σ.1.1 4) d)), (4, .int 1), (5, .int (nI d))]) hx hb dL_areStars_207 hl (by decide) rfl (fun ls hl => ?_)
          refine lv_iload_n hx hb dL_areStars_209 rfl (lv_at hl 5 rfl) ?_
          refine lv_aload_n hx hb dL_areStars_210 rfl (lv_at hl 2 rfl) ?_
          refine lv_iload hx hb dL_areStars_211 (lv_at hl 7 rfl) ?_
          refine core_p (v := .int (σ.1.1 4 d)) (grV (n := 1) (As := [.int (nI d)]) (rest := [.int (sI (σ.1.1 4) d)]) h0 hF (m_X9_cloudOf h0 (cm := cm) (o := o) (σ := σ) hO (nI d) d rfl (by omega)) wm_L_92 wo_X9_cloudOf ws_X9__X9_cloudOf wz_X9 wc_X9_cloudOf ⟨by decide, by decide, by decide +kernel⟩ rfl ⟨Nat.le_of_ble_eq_true rfl, Nat.le_of_ble_eq_true rfl⟩ (ci := 8) (SBH.rec hB) rfl hB hS hAo ⟨by show 11 * d + 0 ≤ 44; omega, by show 1430 * d + 0 ≤ 5720; omega⟩ hl.1 rfl (Nat.le_of_ble_eq_true rfl) dL_areStars_213) ?_
          refine lv_iadd hx hb dL_areStars_216 ?_
          refine lv_istore_n (lv' := [(3, .int ((sI (σ.1.1 4) d) + (σ.1.1 4 d))), (7, .int 0), (6, .int 0), (0, .ref o), (1, .int (nI (cN (fun z => !decide (σ.1.1 2 z = -4)) (σ.1.2 0)))), (2, .int (sI (σ.1.1 3) (σ.1.2 0))), (4, .int 1), (5, .int (nI d))]) hx hb dL_areStars_217 rfl hl (by decide) rfl (fun ls hl => ?_)
          refine lv_iconst (v := 0) hx hb dL_areStars_218 (by decide) ?_
          refine lv_istore (lv' := [(8, .int 0), (3, .int ((sI (σ.1.1 4) d) + (σ.1.1 4 d))), (7, .int 0), (6, .int 0), (0, .ref o), (1, .int (nI (cN (fun z => !decide (σ.1.1 2 z = -4)) (σ.1.2 0)))), (2, .int (sI (σ.1.1 3) (σ.1.2 0))), (4, .int 1), (5, .int (nI d))]) hx hb dL_areStars_219 hl (by decide) rfl (fun ls hl => ?_)
          have key_221 : ∀ (nf q : Nat), q + nf = σ.1.2 0 → ∀ (ls : Array Slot), lv_has ls 10 [(0, .ref o), (1, .int (nI (cN (fun z => !decide (σ.1.1 2 z = -4)) (σ.1.2 0)))), (2, .int (sI (σ.1.1 3) (σ.1.2 0))), (3, .int ((sI (σ.1.1 4) d) + (σ.1.1 4 d))), (4, .int 1), (5, .int (nI d)), (6, .int (nI (cN (fun z => decide (σ.1.1 1 z = nI d) && isSeen σ.1 z) q))), (7, .int (dM σ.1 d q)), (8, .int (nI q))] → W p l e ({ frames := 8, cells := 44, slots := 5720, locals := 192 } : Room) s m ([.ref o] : List Value).toArray below meth c H locs (11 * d) (1430 * d) (MQ below (qM (fun v H => v = some (.int 1) ∧ SBH X cm o σ H) (gA X)) ([.ref o] : List Value).toArray s 44 5720 (gA X)) (F0 m 221 ls []) := by
            intro nf
            induction nf with
            | zero =>
              intro q hq ls hl
              have hq_e : q = σ.1.2 0 := by omega
              subst hq_e
              refine lv_iload hx hb dL_areStars_221 (lv_at hl 8 rfl) ?_
              refine lv_aload_n hx hb dL_areStars_223 rfl (lv_at hl 0 rfl) ?_
              refine lv_iconst (v := 0) hx hb dL_areStars_224 (by decide) ?_
              refine core_p (v := .int (nI (σ.1.2 0))) (grV (n := 1) (As := [.int 0]) (rest := [.int (nI (σ.1.2 0))]) h0 hF (m_X9_account_0 h0 (cm := cm) (o := o) (σ := σ) hO) wm_L_89 wo_X9_account ws_X9__X9_account wz_X9 wc_X9_account ⟨by decide, by decide, by decide +kernel⟩ rfl ⟨Nat.le_of_ble_eq_true rfl, Nat.le_of_ble_eq_true rfl⟩ (ci := 8) (SBH.rec hB) rfl hB hS hAo ⟨by show 11 * d + 0 ≤ 44; omega, by show 1430 * d + 0 ≤ 5720; omega⟩ hl.1 rfl (Nat.le_of_ble_eq_true rfl) dL_areStars_225) ?_
              refine lv_icmp_ge (tgt := 310) hx hb dL_areStars_228 (by decide) (fun c_228 => ?_) (fun c_228 => absurd (nI_le (a := σ.1.2 0) (b := σ.1.2 0) (by omega) (by omega)) c_228)
              have n_228 := Int32.not_lt.mpr c_228
              refine lv_aload_n hx hb dL_areStars_310 rfl (lv_at hl 0 rfl) ?_
              refine lv_iload hx hb dL_areStars_311 (lv_at hl 5 rfl) ?_
              refine core_p (v := .int (seenN σ.1 d)) (grV (n := 1) (As := [.int (nI d)]) (rest := []) h0 hF (m_X9_seen h0 (cm := cm) (o := o) (σ := σ) hO (nI d) d rfl (by omega)) wm_L_115 wo_X9_seen ws_X9__X9_seen wz_X9 wc_X9_seen ⟨by decide, by decide, by decide +kernel⟩ rfl ⟨Nat.le_of_ble_eq_true rfl, Nat.le_of_ble_eq_true rfl⟩ (ci := 8) (SBH.rec hB) rfl hB hS hAo ⟨by show 11 * d + 0 ≤ 44; omega, by show 1430 * d + 0 ≤ 5720; omega⟩ hl.1 rfl (Nat.le_of_ble_eq_true rfl) dL_areStars_313) ?_
              refine lv_iload hx hb dL_areStars_316 (lv_at hl 6 rfl) ?_
              refine lv_icmp_ne (tgt := 356) hx hb dL_areStars_318 (by decide) (fun c_318 => absurd rfl c_318) (fun c_318 => ?_)
              refine lv_aload_n hx hb dL_areStars_321 rfl (lv_at hl 0 rfl) ?_
              refine lv_iload hx hb dL_areStars_322 (lv_at hl 5 rfl) ?_
              refine core_p (v := .int (seenA σ.1 d)) (grV (n := 1) (As := [.int (nI d)]) (rest := []) h0 hF (m_X9_seenAgain h0 (cm := cm) (o := o) (σ := σ) hO hOc (nI d) d rfl (by omega)) wm_L_118 wo_X9_seenAgain ws_X9__X9_seenAgain wz_X9 wc_X9_seenAgain ⟨by decide, by decide, by decide +kernel⟩ rfl ⟨Nat.le_of_ble_eq_true rfl, Nat.le_of_ble_eq_true rfl⟩ (ci := 8) (SBH.rec hB) rfl hB hS hAo ⟨by show 11 * d + 0 ≤ 44; omega, by show 1430 * d + 0 ≤ 5720; omega⟩ hl.1 rfl (Nat.le_of_ble_eq_true rfl) dL_areStars_324) ?_
              refine lv_iload hx hb dL_areStars_327 (lv_at hl 6 rfl) ?_
              refine lv_icmp_ne (tgt := 356) hx hb dL_areStars_329 (by decide) (fun c_329 => absurd (hW.2 d hd_l).symm c_329) (fun c_329 => ?_)
              refine lv_aload_n hx hb dL_areStars_332 rfl (lv_at hl 0 rfl) ?_
              refine lv_iload hx hb dL_areStars_333 (lv_at hl 5 rfl) ?_
              refine core_p (v := .int (dM σ.1 d (σ.1.2 0))) (grV (n := 1) (As := [.int (nI d)]) (rest := []) h0 hF (m_X9_brightens h0 (cm := cm) (o := o) (σ := σ) hO (nI d) d rfl (by omega)) wm_L_121 wo_X9_brightens ws_X9__X9_brightens wz_X9 wc_X9_brightens ⟨by decide, by decide, by decide +kernel⟩ rfl ⟨Nat.le_of_ble_eq_true rfl, Nat.le_of_ble_eq_true rfl⟩ (ci := 8) (SBH.rec hB) rfl hB hS hAo ⟨by show 11 * d + 0 ≤ 44; omega, by show 1430 * d + 0 ≤ 5720; omega⟩ hl.1 rfl (Nat.le_of_ble_eq_true rfl) dL_areStars_335) ?_
              refine lv_iload hx hb dL_areStars_338 (lv_at hl 7 rfl) ?_
              refine lv_icmp_ne (tgt := 356) hx hb dL_areStars_340 (by decide) (fun c_340 => absurd rfl c_340) (fun c_340 => ?_)
              refine lv_aload_n hx hb dL_areStars_343 rfl (lv_at hl 0 rfl) ?_
              refine lv_iload hx hb dL_areStars_344 (lv_at hl 5 rfl) ?_
              refine core_m (A1 := gA X) (grV (Bh := (SBH X cm o σ)) (n := 1) (As := [.int (nI d)]) (rest := []) h0 hF (m_X9_writeSky h0 (cm := cm) (o := o) (σ := σ) hO hOc (d := d) (by omega)) wm_L_124 wo_X9_writeSky ws_X9__X9_writeSky wz_X9 wc_X9_writeSky ⟨by decide, by decide, by decide +kernel⟩ rfl ⟨Nat.le_of_ble_eq_true rfl, Nat.le_of_ble_eq_true rfl⟩ (ci := 8) (SBH.rec hB) rfl hB hS hAo ⟨by show 11 * d + 11 ≤ 44; omega, by show 1430 * d + 1430 ≤ 5720; omega⟩ hl.1 rfl (Nat.le_of_ble_eq_true rfl) dL_areStars_346) hS (fun q h8 => h8) (fun v' H locs hq' hz1 hk1 hS => ?_)
              obtain ⟨L9, rfl, hL9, hB⟩ := hq'
              refine lv_if_lt (tgt := 356) hx hb dL_areStars_349 (by decide) (fun c_349 => absurd c_349 (nI_pos (by omega))) (fun c_349 => ?_)
              have n_349 := Int32.not_lt.mp c_349
              refine lv_iconst (v := 1) hx hb dL_areStars_352 (by decide) ?_
              refine lv_goto (tgt := 357) hx hb dL_areStars_353 (by decide) ?_
              refine lv_istore (lv' := [(4, .int 1), (0, .ref o), (1, .int (nI (cN (fun z => !decide (σ.1.1 2 z = -4)) (σ.1.2 0)))), (2, .int (sI (σ.1.1 3) (σ.1.2 0))), (3, .int ((sI (σ.1.1 4) d) + (σ.1.1 4 d))), (5, .int (nI d)), (6, .int (nI (cN (fun z => decide (σ.1.1 1 z = nI d) && isSeen σ.1 z) (σ.1.2 0)))), (7, .int (dM σ.1 d (σ.1.2 0))), (8, .int (nI (σ.1.2 0)))]) hx hb dL_areStars_357 hl (by decide) rfl (fun ls hl => ?_)
              refine lv_iinc (v := nI (d + 1)) (lv' := [(5, .int (nI (d + 1))), (4, .int 1), (0, .ref o), (1, .int (nI (cN (fun z => !decide (σ.1.1 2 z = -4)) (σ.1.2 0)))), (2, .int (sI (σ.1.1 3) (σ.1.2 0))), (3, .int ((sI (σ.1.1 4) d) + (σ.1.1 4 d))), (6, .int (nI (cN (fun z => decide (σ.1.1 1 z = nI d) && isSeen σ.1 z) (σ.1.2 0)))), (7, .int (dM σ.1 d (σ.1.2 0))), (8, .int (nI (σ.1.2 0)))]) hx hb dL_areStars_359 hl (k := 5) rfl (nI_1 d) (by decide) rfl (fun ls hl => ?_)
              refine lv_goto (tgt := 192) hx hb dL_areStars_362 (by decide) ?_
              refine W.widen (k := 11 * (d + 1)) (n := 1430 * (d + 1)) (by omega) (by omega) ?_
              refine ih_192 (d + 1) (by omega) _ _ hB hS ls (lv_eqv (lv_sub (l' := [(0, .ref o), (1, .int (nI (cN (fun z => !decide (σ.1.1 2 z = -4)) (σ.1.2 0)))), (2, .int (sI (σ.1.1 3) (σ.1.2 0))), (3, .int ((sI (σ.1.1 4) d) + (σ.1.1 4 d))), (4, .int 1), (5, .int (nI (d + 1)))]) hl [2, 3, 4, 5, 1, 0] rfl) ?_)
              rw [show ((sI (σ.1.1 4) d) + (σ.1.1 4 d)) = (sI (σ.1.1 4) (d + 1)) from (rfl)]
            | succ nf ih_221 =>
              intro q hq ls hl
              have hq_l : q < σ.1.2 0 := by omega
              refine lv_iload hx hb dL_areStars_221 (lv_at hl 8 rfl) ?_
              refine lv_aload_n hx hb dL_areStars_223 rfl (lv_at hl 0 rfl) ?_
              refine lv_iconst (v := 0) hx hb dL_areStars_224 (by decide) ?_
              refine core_p (v := .int (nI (σ.1.2 0))) (grV (n := 1) (As := [.int 0]) (rest := [.int (nI q)]) h0 hF (m_X9_account_0 h0 (cm := cm) (o := o) (σ := σ) hO) wm_L_89 wo_X9_account ws_X9__X9_account wz_X9 wc_X9_account ⟨by decide, by decide, by decide +kernel⟩ rfl ⟨Nat.le_of_ble_eq_true rfl, Nat.le_of_ble_eq_true rfl⟩ (ci := 8) (SBH.rec hB) rfl hB hS hAo ⟨by show 11 * d + 0 ≤ 44; omega, by show 1430 * d + 0 ≤ 5720; omega⟩ hl.1 rfl (Nat.le_of_ble_eq_true rfl) dL_areStars_225) ?_
              refine lv_icmp_ge (tgt := 310) hx hb dL_areStars_228 (by decide) (fun c_228 => absurd c_228 (nI_ge (a := q) (b := σ.1.2 0) (by omega) (by omega))) (fun c_228 => ?_)
              have n_228 := Int32.not_le.mp c_228
              have hJ_231 : ∀ v9 : Int32, v9 = bI (decide (σ.1.1 1 q = nI d)) → W p l e ({ frames := 8, cells := 44, slots := 5720, locals := 192 } : Room) s m ([.ref o] : List Value).toArray below meth c H locs (11 * d) (1430 * d) (MQ below (qM (fun v H => v = some (.int 1) ∧ SBH X cm o σ H) (gA X)) ([.ref o] : List Value).toArray s 44 5720 (gA X)) (F0 m 248 ls (.int v9 :: [])) := by
                intro v9 hv9
                subst hv9
                refine lv_istore (lv' := [(9, .int (bI (decide (σ.1.1 1 q = nI d)))), (0, .ref o), (1, .int (nI (cN (fun z => !decide (σ.1.1 2 z = -4)) (σ.1.2 0)))), (2, .int (sI (σ.1.1 3) (σ.1.2 0))), (3, .int ((sI (σ.1.1 4) d) + (σ.1.1 4 d))), (4, .int 1), (5, .int (nI d)), (6, .int (nI (cN (fun z => decide (σ.1.1 1 z = nI d) && isSeen σ.1 z) q))), (7, .int (dM σ.1 d q)), (8, .int (nI q))]) hx hb dL_areStars_248 hl (by decide) rfl (fun ls hl => ?_)
                refine lv_iload hx hb dL_areStars_250 (lv_at hl 7 rfl) ?_
                have hJ_252 : ∀ v9 : Int32, v9 = bI (decide (σ.1.1 1 q = nI d) && isSeen σ.1 q) → W p l e ({ frames := 8, cells := 44, slots := 5720, locals := 192 } : Room) s m ([.ref o] : List Value).toArray below meth c H locs (11 * d) (1430 * d) (MQ below (qM (fun v H => v = some (.int 1) ∧ SBH X cm o σ H) (gA X)) ([.ref o] : List Value).toArray s 44 5720 (gA X)) (F0 m 268 ls (.int v9 :: [.int (nI (cN (fun z => decide (σ.1.1 1 z = nI d) && isSeen σ.1 z) q))])) := by
                  intro v9 hv9
                  subst hv9
                  refine lv_iadd hx hb dL_areStars_268 ?_
                  refine lv_istore (lv' := [(6, .int ((nI (cN (fun z => decide (σ.1.1 1 z = nI d) && isSeen σ.1 z) q)) + (bI (decide (σ.1.1 1 q = nI d) && isSeen σ.1 q)))), (9, .int (bI (decide (σ.1.1 1 q = nI d)))), (0, .ref o), (1, .int (nI (cN (fun z => !decide (σ.1.1 2 z = -4)) (σ.1.2 0)))), (2, .int (sI (σ.1.1 3) (σ.1.2 0))), (3, .int ((sI (σ.1.1 4) d) + (σ.1.1 4 d))), (4, .int 1), (5, .int (nI d)), (7, .int (dM σ.1 d q)), (8, .int (nI q))]) hx hb dL_areStars_269 hl (by decide) rfl (fun ls hl => ?_)
                  have hJ_271 : ∀ v9 : Int32, v9 = dM σ.1 d (q + 1) → W p l e ({ frames := 8, cells := 44, slots := 5720, locals := 192 } : Room) s m ([.ref o] : List Value).toArray below meth c H locs (11 * d) (1430 * d) (MQ below (qM (fun v H => v = some (.int 1) ∧ SBH X cm o σ H) (gA X)) ([.ref o] : List Value).toArray s 44 5720 (gA X)) (F0 m 302 ls (.int v9 :: [])) := by
                    intro v9 hv9
                    subst hv9
                    refine lv_istore (lv' := [(7, .int (dM σ.1 d (q + 1))), (6, .int ((nI (cN (fun z => decide (σ.1.1 1 z = nI d) && isSeen σ.1 z) q)) + (bI (decide (σ.1.1 1 q = nI d) && isSeen σ.1 q)))), (9, .int (bI (decide (σ.1.1 1 q = nI d)))), (0, .ref o), (1, .int (nI (cN (fun z => !decide (σ.1.1 2 z = -4)) (σ.1.2 0)))), (2, .int (sI (σ.1.1 3) (σ.1.2 0))), (3, .int ((sI (σ.1.1 4) d) + (σ.1.1 4 d))), (4, .int 1), (5, .int (nI d)), (8, .int (nI q))]) hx hb dL_areStars_302 hl (by decide) rfl (fun ls hl => ?_)
                    refine lv_iinc (v := nI (q + 1)) (lv' := [(8, .int (nI (q + 1))), (7, .int (dM σ.1 d (q + 1))), (6, .int ((nI (cN (fun z => decide (σ.1.1 1 z = nI d) && isSeen σ.1 z) q)) + (bI (decide (σ.1.1 1 q = nI d) && isSeen σ.1 q)))), (9, .int (bI (decide (σ.1.1 1 q = nI d)))), (0, .ref o), (1, .int (nI (cN (fun z => !decide (σ.1.1 2 z = -4)) (σ.1.2 0)))), (2, .int (sI (σ.1.1 3) (σ.1.2 0))), (3, .int ((sI (σ.1.1 4) d) + (σ.1.1 4 d))), (4, .int 1), (5, .int (nI d))]) hx hb dL_areStars_304 hl (k := 9) rfl (nI_1 q) (by decide) rfl (fun ls hl => ?_)
                    refine lv_goto (tgt := 221) hx hb dL_areStars_307 (by decide) ?_
                    refine ih_221 (q + 1) (by omega) ls (lv_eqv (lv_sub (l' := [(0, .ref o), (1, .int (nI (cN (fun z => !decide (σ.1.1 2 z = -4)) (σ.1.2 0)))), (2, .int (sI (σ.1.1 3) (σ.1.2 0))), (3, .int ((sI (σ.1.1 4) d) + (σ.1.1 4 d))), (4, .int 1), (5, .int (nI d)), (6, .int ((nI (cN (fun z => decide (σ.1.1 1 z = nI d) && isSeen σ.1 z) q)) + (bI (decide (σ.1.1 1 q = nI d) && isSeen σ.1 q)))), (7, .int (dM σ.1 d (q + 1))), (8, .int (nI (q + 1)))]) hl [4, 5, 6, 7, 8, 9, 2, 1, 0] rfl) ?_)
                    rw [show ((nI (cN (fun z => decide (σ.1.1 1 z = nI d) && isSeen σ.1 z) q)) + (bI (decide (σ.1.1 1 q = nI d) && isSeen σ.1 q))) = (nI (cN (fun z => decide (σ.1.1 1 z = nI d) && isSeen σ.1 z) (q + 1))) from (cN_b (fun z => decide (σ.1.1 1 z = nI d) && isSeen σ.1 z) q)]
                  refine lv_iload hx hb dL_areStars_271 (lv_at hl 1 rfl) ?_
                  refine lv_if_eq (tgt := 300) hx hb dL_areStars_273 (by decide) (fun c_273 => ?_) (fun c_273 => ?_)
                  · have n_273 := bI_0.mp c_273
                    refine lv_iload hx hb dL_areStars_300 (lv_at hl 8 rfl) ?_
                    exact hJ_271 _ (by first | exact dM_t (of_decide_eq_true n_273) | exact dM_f (of_decide_eq_false n_273))
                  · have n_273 := bI_n0.mp c_273
                    refine lv_iload hx hb dL_areStars_276 (lv_at hl 8 rfl) ?_
                    refine lv_aload_n hx hb dL_areStars_278 rfl (lv_at hl 2 rfl) ?_
                    refine lv_iload hx hb dL_areStars_279 (lv_at hl 7 rfl) ?_
                    refine core_p (v := .int (σ.1.1 4 d)) (grV (n := 1) (As := [.int (nI d)]) (rest := [.int (dM σ.1 d q)]) h0 hF (m_X9_cloudOf h0 (cm := cm) (o := o) (σ := σ) hO (nI d) d rfl (by omega)) wm_L_92 wo_X9_cloudOf ws_X9__X9_cloudOf wz_X9 wc_X9_cloudOf ⟨by decide, by decide, by decide +kernel⟩ rfl ⟨Nat.le_of_ble_eq_true rfl, Nat.le_of_ble_eq_true rfl⟩ (ci := 8) (SBH.rec hB) rfl hB hS hAo ⟨by show 11 * d + 0 ≤ 44; omega, by show 1430 * d + 0 ≤ 5720; omega⟩ hl.1 rfl (Nat.le_of_ble_eq_true rfl) dL_areStars_281) ?_
                    refine lv_iconst (v := 1) hx hb dL_areStars_284 (by decide) ?_
                    refine lv_iadd hx hb dL_areStars_285 ?_
                    refine lv_aload_n hx hb dL_areStars_286 rfl (lv_at hl 2 rfl) ?_
                    refine lv_iload hx hb dL_areStars_287 (lv_at hl 9 rfl) ?_
                    refine lv_iconst (v := 0) hx hb dL_areStars_289 (by decide) ?_
                    refine core_p (v := .int (σ.1.1 0 q)) (grV (n := 2) (As := [.int (nI q), .int 0]) (rest := [.int ((σ.1.1 4 d) + 1), .int (dM σ.1 d q)]) h0 hF (m_X9_starOf_0 h0 (cm := cm) (o := o) (σ := σ) hO (nI q) q rfl (by omega)) wm_L_95 wo_X9_starOf ws_X9__X9_starOf wz_X9 wc_X9_starOf ⟨by decide, by decide, by decide +kernel⟩ rfl ⟨Nat.le_of_ble_eq_true rfl, Nat.le_of_ble_eq_true rfl⟩ (ci := 8) (SBH.rec hB) rfl hB hS hAo ⟨by show 11 * d + 0 ≤ 44; omega, by show 1430 * d + 0 ≤ 5720; omega⟩ hl.1 rfl (Nat.le_of_ble_eq_true rfl) dL_areStars_290) ?_
                    refine lv_isub hx hb dL_areStars_293 ?_
                    refine va_mmax hx hb (by rw [hl.1]; exact hml) hown (hG.hts h0 _ _ wm_L_110) (hG.hts h0 _ _ wt_J9_max_7cf53) (hG.hts h0 _ _ wz_J9) (hG.hts h0 _ _ wc_J9_max_7cf53) (Nat.le_of_ble_eq_true rfl) (Nat.le_of_ble_eq_true rfl) (by show 11 * d ≤ 44; omega) (by show 1430 * d ≤ 5720; omega) dL_areStars_294 ?_
                    refine lv_goto (tgt := 302) hx hb dL_areStars_297 (by decide) ?_
                    exact hJ_271 _ (by first | exact dM_t (of_decide_eq_true n_273) | exact dM_f (of_decide_eq_false n_273))
                refine lv_iload hx hb dL_areStars_252 (lv_at hl 0 rfl) ?_
                refine lv_if_eq (tgt := 267) hx hb dL_areStars_254 (by decide) (fun c_254 => ?_) (fun c_254 => ?_)
                · have n_254 := bI_0.mp c_254
                  refine lv_iconst (v := 0) hx hb dL_areStars_267 (by decide) ?_
                  exact hJ_252 _ (by simp [bI, n_254])
                · have n_254 := bI_n0.mp c_254
                  refine lv_aload_n hx hb dL_areStars_257 rfl (lv_at hl 1 rfl) ?_
                  refine lv_iload hx hb dL_areStars_258 (lv_at hl 9 rfl) ?_
                  refine lv_iconst (v := 2) hx hb dL_areStars_260 (by decide) ?_
                  refine core_p (v := .int (bI (isSeen σ.1 q))) (grV (n := 2) (As := [.int (nI q), .int 2]) (rest := [.int (nI (cN (fun z => decide (σ.1.1 1 z = nI d) && isSeen σ.1 z) q))]) h0 hF (m_X9_starOf_2 h0 (cm := cm) (o := o) (σ := σ) hO (nI q) q rfl (by omega)) wm_L_95 wo_X9_starOf ws_X9__X9_starOf wz_X9 wc_X9_starOf ⟨by decide, by decide, by decide +kernel⟩ rfl ⟨Nat.le_of_ble_eq_true rfl, Nat.le_of_ble_eq_true rfl⟩ (ci := 8) (SBH.rec hB) rfl hB hS hAo ⟨by show 11 * d + 0 ≤ 44; omega, by show 1430 * d + 0 ≤ 5720; omega⟩ hl.1 rfl (Nat.le_of_ble_eq_true rfl) dL_areStars_261) ?_
                  refine lv_goto (tgt := 268) hx hb dL_areStars_264 (by decide) ?_
                  exact hJ_252 _ (by simp [bI, n_254])
              refine lv_aload_n hx hb dL_areStars_231 rfl (lv_at hl 0 rfl) ?_
              refine lv_iload hx hb dL_areStars_232 (lv_at hl 8 rfl) ?_
              refine lv_iconst (v := 1) hx hb dL_areStars_234 (by decide) ?_
              refine core_p (v := .int (σ.1.1 1 q)) (grV (n := 2) (As := [.int (nI q), .int 1]) (rest := []) h0 hF (m_X9_starOf_1 h0 (cm := cm) (o := o) (σ := σ) hO (nI q) q rfl (by omega)) wm_L_95 wo_X9_starOf ws_X9__X9_starOf wz_X9 wc_X9_starOf ⟨by decide, by decide, by decide +kernel⟩ rfl ⟨Nat.le_of_ble_eq_true rfl, Nat.le_of_ble_eq_true rfl⟩ (ci := 8) (SBH.rec hB) rfl hB hS hAo ⟨by show 11 * d + 0 ≤ 44; omega, by show 1430 * d + 0 ≤ 5720; omega⟩ hl.1 rfl (Nat.le_of_ble_eq_true rfl) dL_areStars_235) ?_
              refine lv_iload hx hb dL_areStars_238 (lv_at hl 5 rfl) ?_
              refine lv_icmp_ne (tgt := 247) hx hb dL_areStars_240 (by decide) (fun c_240 => ?_) (fun c_240 => ?_)
              · refine lv_iconst (v := 0) hx hb dL_areStars_247 (by decide) ?_
                exact hJ_231 _ (by simp [bI, c_240])
              · refine lv_iconst (v := 1) hx hb dL_areStars_243 (by decide) ?_
                refine lv_goto (tgt := 248) hx hb dL_areStars_244 (by decide) ?_
                exact hJ_231 _ (by simp [bI, c_240])
          exact key_221 (σ.1.2 0) 0 (by omega) ls (lv_sub hl [4, 5, 6, 1, 7, 8, 3, 2, 0] rfl)
      refine W.widen (k := 11 * 0) (n := 1430 * 0) (by omega) (by omega) ?_
      exact key_192 (4) 0 (by omega) _ _ hB hS ls (lv_sub hl [1, 2, 3, 4, 5, 0] rfl)
    | succ nf ih_12 =>
      intro i hi ls hl
      have hi_l : i < σ.1.2 0 := by omega
      refine lv_iload hx hb dL_areStars_12 (lv_at hl 4 rfl) ?_
      refine lv_if_eq (tgt := 189) hx hb dL_areStars_14 (by decide) (fun c_14 => absurd c_14 (by decide)) (fun c_14 => ?_)
      refine lv_iload hx hb dL_areStars_17 (lv_at hl 5 rfl) ?_
      refine lv_aload_n hx hb dL_areStars_19 rfl (lv_at hl 0 rfl) ?_
      refine lv_iconst (v := 0) hx hb dL_areStars_20 (by decide) ?_
      refine core_p (v := .int (nI (σ.1.2 0))) (grV (n := 1) (As := [.int 0]) (rest := [.int (nI i)]) h0 hF (m_X9_account_0 h0 (cm := cm) (o := o) (σ := σ) hO) wm_L_89 wo_X9_account ws_X9__X9_account wz_X9 wc_X9_account ⟨by decide, by decide, by decide +kernel⟩ rfl ⟨Nat.le_of_ble_eq_true rfl, Nat.le_of_ble_eq_true rfl⟩ (ci := 8) (SBH.rec hB) rfl hB hS hAo ⟨Nat.le_of_ble_eq_true rfl, Nat.le_of_ble_eq_true rfl⟩ hl.1 rfl (Nat.le_of_ble_eq_true rfl) dL_areStars_21) ?_
      refine lv_icmp_ge (tgt := 189) hx hb dL_areStars_24 (by decide) (fun c_24 => absurd c_24 (nI_ge (a := i) (b := σ.1.2 0) (by omega) (by omega))) (fun c_24 => ?_)
      have n_24 := Int32.not_le.mp c_24
      have hJ_27 : ∀ v9 : Int32, v9 = bI (isSeen σ.1 i) → W p l e ({ frames := 8, cells := 44, slots := 5720, locals := 192 } : Room) s m ([.ref o] : List Value).toArray below meth c s.heap [] 0 0 (MQ below (qM (fun v H => v = some (.int 1) ∧ SBH X cm o σ H) (gA X)) ([.ref o] : List Value).toArray s 44 5720 (gA X)) (F0 m 53 ls (.int v9 :: [])) := by
        intro v9 hv9
        subst hv9
        refine lv_istore (lv' := [(6, .int (bI (isSeen σ.1 i))), (0, .ref o), (1, .int (nI (cN (fun z => !decide (σ.1.1 2 z = -4)) i))), (2, .int (sI (σ.1.1 3) i)), (3, .int 0), (4, .int 1), (5, .int (nI i))]) hx hb dL_areStars_53 hl (by decide) rfl (fun ls hl => ?_)
        refine lv_iload_n hx hb dL_areStars_55 rfl (lv_at hl 2 rfl) ?_
        have hJ_56 : ∀ v9 : Int32, v9 = bI (!decide (σ.1.1 2 i = -4)) → W p l e ({ frames := 8, cells := 44, slots := 5720, locals := 192 } : Room) s m ([.ref o] : List Value).toArray below meth c s.heap [] 0 0 (MQ below (qM (fun v H => v = some (.int 1) ∧ SBH X cm o σ H) (gA X)) ([.ref o] : List Value).toArray s 44 5720 (gA X)) (F0 m 73 ls (.int v9 :: [.int (nI (cN (fun z => !decide (σ.1.1 2 z = -4)) i))])) := by
          intro v9 hv9
          subst hv9
          refine lv_iadd hx hb dL_areStars_73 ?_
          refine lv_istore_n (lv' := [(1, .int ((nI (cN (fun z => !decide (σ.1.1 2 z = -4)) i)) + (bI (!decide (σ.1.1 2 i = -4))))), (6, .int (bI (isSeen σ.1 i))), (0, .ref o), (2, .int (sI (σ.1.1 3) i)), (3, .int 0), (4, .int 1), (5, .int (nI i))]) hx hb dL_areStars_74 rfl hl (by decide) rfl (fun ls hl => ?_)
          refine lv_iload_n hx hb dL_areStars_75 rfl (lv_at hl 3 rfl) ?_
          refine lv_aload_n hx hb dL_areStars_76 rfl (lv_at hl 2 rfl) ?_
          refine lv_iload hx hb dL_areStars_77 (lv_at hl 6 rfl) ?_
          refine lv_iconst (v := 4) hx hb dL_areStars_79 (by decide) ?_
          refine core_p (v := .int (σ.1.1 3 i)) (grV (n := 2) (As := [.int (nI i), .int 4]) (rest := [.int (sI (σ.1.1 3) i)]) h0 hF (m_X9_starOf_4 h0 (cm := cm) (o := o) (σ := σ) hO (nI i) i rfl (by omega)) wm_L_95 wo_X9_starOf ws_X9__X9_starOf wz_X9 wc_X9_starOf ⟨by decide, by decide, by decide +kernel⟩ rfl ⟨Nat.le_of_ble_eq_true rfl, Nat.le_of_ble_eq_true rfl⟩ (ci := 8) (SBH.rec hB) rfl hB hS hAo ⟨Nat.le_of_ble_eq_true rfl, Nat.le_of_ble_eq_true rfl⟩ hl.1 rfl (Nat.le_of_ble_eq_true rfl) dL_areStars_80) ?_
          refine lv_iadd hx hb dL_areStars_83 ?_
          refine lv_istore_n (lv' := [(2, .int ((sI (σ.1.1 3) i) + (σ.1.1 3 i))), (1, .int ((nI (cN (fun z => !decide (σ.1.1 2 z = -4)) i)) + (bI (!decide (σ.1.1 2 i = -4))))), (6, .int (bI (isSeen σ.1 i))), (0, .ref o), (3, .int 0), (4, .int 1), (5, .int (nI i))]) hx hb dL_areStars_84 rfl hl (by decide) rfl (fun ls hl => ?_)
          have hJ_85 : ∀ v9 : Int32, v9 = bI (isSeen σ.1 i) → W p l e ({ frames := 8, cells := 44, slots := 5720, locals := 192 } : Room) s m ([.ref o] : List Value).toArray below meth c s.heap [] 0 0 (MQ below (qM (fun v H => v = some (.int 1) ∧ SBH X cm o σ H) (gA X)) ([.ref o] : List Value).toArray s 44 5720 (gA X)) (F0 m 101 ls (.int v9 :: [])) := by
            intro v9 hv9
            subst hv9
            refine lv_iload hx hb dL_areStars_101 (lv_at hl 2 rfl) ?_
            refine lv_icmp_ne (tgt := 110) hx hb dL_areStars_103 (by decide) (fun c_103 => absurd rfl c_103) (fun c_103 => ?_)
            refine lv_iconst (v := 1) hx hb dL_areStars_106 (by decide) ?_
            refine lv_goto (tgt := 111) hx hb dL_areStars_107 (by decide) ?_
            refine lv_istore (lv' := [(4, .int 1), (2, .int ((sI (σ.1.1 3) i) + (σ.1.1 3 i))), (1, .int ((nI (cN (fun z => !decide (σ.1.1 2 z = -4)) i)) + (bI (!decide (σ.1.1 2 i = -4))))), (6, .int (bI (isSeen σ.1 i))), (0, .ref o), (3, .int 0), (5, .int (nI i))]) hx hb dL_areStars_111 hl (by decide) rfl (fun ls hl => ?_)
            refine lv_iconst (v := 0) hx hb dL_areStars_113 (by decide) ?_
            refine lv_istore (lv' := [(7, .int 0), (4, .int 1), (2, .int ((sI (σ.1.1 3) i) + (σ.1.1 3 i))), (1, .int ((nI (cN (fun z => !decide (σ.1.1 2 z = -4)) i)) + (bI (!decide (σ.1.1 2 i = -4))))), (6, .int (bI (isSeen σ.1 i))), (0, .ref o), (3, .int 0), (5, .int (nI i))]) hx hb dL_areStars_114 hl (by decide) rfl (fun ls hl => ?_)
            have key_116 : ∀ (nf r : Nat), r + nf = σ.1.2 1 → ∀ (ls : Array Slot), lv_has ls 10 [(0, .ref o), (1, .int ((nI (cN (fun z => !decide (σ.1.1 2 z = -4)) i)) + (bI (!decide (σ.1.1 2 i = -4))))), (2, .int ((sI (σ.1.1 3) i) + (σ.1.1 3 i))), (3, .int 0), (4, .int 1), (5, .int (nI i)), (6, .int (bI (isSeen σ.1 i))), (7, .int (nI r))] → W p l e ({ frames := 8, cells := 44, slots := 5720, locals := 192 } : Room) s m ([.ref o] : List Value).toArray below meth c s.heap [] 0 0 (MQ below (qM (fun v H => v = some (.int 1) ∧ SBH X cm o σ H) (gA X)) ([.ref o] : List Value).toArray s 44 5720 (gA X)) (F0 m 116 ls []) := by
              intro nf
              induction nf with
              | zero =>
                intro r hr ls hl
                have hr_e : r = σ.1.2 1 := by omega
                subst hr_e
                refine lv_iload hx hb dL_areStars_116 (lv_at hl 4 rfl) ?_
                refine lv_if_eq (tgt := 183) hx hb dL_areStars_118 (by decide) (fun c_118 => absurd c_118 (by decide)) (fun c_118 => ?_)
                refine lv_iload hx hb dL_areStars_121 (lv_at hl 7 rfl) ?_
                refine lv_aload_n hx hb dL_areStars_123 rfl (lv_at hl 0 rfl) ?_
                refine lv_iconst (v := 1) hx hb dL_areStars_124 (by decide) ?_
                refine core_p (v := .int (nI (σ.1.2 1))) (grV (n := 1) (As := [.int 1]) (rest := [.int (nI (σ.1.2 1))]) h0 hF (m_X9_account_1 h0 (cm := cm) (o := o) (σ := σ) hO) wm_L_89 wo_X9_account ws_X9__X9_account wz_X9 wc_X9_account ⟨by decide, by decide, by decide +kernel⟩ rfl ⟨Nat.le_of_ble_eq_true rfl, Nat.le_of_ble_eq_true rfl⟩ (ci := 8) (SBH.rec hB) rfl hB hS hAo ⟨Nat.le_of_ble_eq_true rfl, Nat.le_of_ble_eq_true rfl⟩ hl.1 rfl (Nat.le_of_ble_eq_true rfl) dL_areStars_125) ?_
                refine lv_icmp_ge (tgt := 183) hx hb dL_areStars_128 (by decide) (fun c_128 => ?_) (fun c_128 => absurd (nI_le (a := σ.1.2 1) (b := σ.1.2 1) (by omega) (by omega)) c_128)
                have n_128 := Int32.not_lt.mpr c_128
                refine lv_iinc (v := nI (i + 1)) (lv' := [(5, .int (nI (i + 1))), (0, .ref o), (1, .int ((nI (cN (fun z => !decide (σ.1.1 2 z = -4)) i)) + (bI (!decide (σ.1.1 2 i = -4))))), (2, .int ((sI (σ.1.1 3) i) + (σ.1.1 3 i))), (3, .int 0), (4, .int 1), (6, .int (bI (isSeen σ.1 i))), (7, .int (nI (σ.1.2 1)))]) hx hb dL_areStars_183 hl (k := 5) rfl (nI_1 i) (by decide) rfl (fun ls hl => ?_)
                refine lv_goto (tgt := 12) hx hb dL_areStars_186 (by decide) ?_
                refine ih_12 (i + 1) (by omega) ls (lv_eqv (lv_sub (l' := [(0, .ref o), (1, .int ((nI (cN (fun z => !decide (σ.1.1 2 z = -4)) i)) + (bI (!decide (σ.1.1 2 i = -4))))), (2, .int ((sI (σ.1.1 3) i) + (σ.1.1 3 i))), (3, .int 0), (4, .int 1), (5, .int (nI (i + 1)))]) hl [1, 2, 3, 4, 5, 0] rfl) ?_)
                rw [show ((nI (cN (fun z => !decide (σ.1.1 2 z = -4)) i)) + (bI (!decide (σ.1.1 2 i = -4)))) = (nI (cN (fun z => !decide (σ.1.1 2 z = -4)) (i + 1))) from (cN_b (fun z => !decide (σ.1.1 2 z = -4)) i), show ((sI (σ.1.1 3) i) + (σ.1.1 3 i)) = (sI (σ.1.1 3) (i + 1)) from (rfl)]
              | succ nf ih_116 =>
                intro r hr ls hl
                have hr_l : r < σ.1.2 1 := by omega
                refine lv_iload hx hb dL_areStars_116 (lv_at hl 4 rfl) ?_
                refine lv_if_eq (tgt := 183) hx hb dL_areStars_118 (by decide) (fun c_118 => absurd c_118 (by decide)) (fun c_118 => ?_)
                refine lv_iload hx hb dL_areStars_121 (lv_at hl 7 rfl) ?_
                refine lv_aload_n hx hb dL_areStars_123 rfl (lv_at hl 0 rfl) ?_
                refine lv_iconst (v := 1) hx hb dL_areStars_124 (by decide) ?_
                refine core_p (v := .int (nI (σ.1.2 1))) (grV (n := 1) (As := [.int 1]) (rest := [.int (nI r)]) h0 hF (m_X9_account_1 h0 (cm := cm) (o := o) (σ := σ) hO) wm_L_89 wo_X9_account ws_X9__X9_account wz_X9 wc_X9_account ⟨by decide, by decide, by decide +kernel⟩ rfl ⟨Nat.le_of_ble_eq_true rfl, Nat.le_of_ble_eq_true rfl⟩ (ci := 8) (SBH.rec hB) rfl hB hS hAo ⟨Nat.le_of_ble_eq_true rfl, Nat.le_of_ble_eq_true rfl⟩ hl.1 rfl (Nat.le_of_ble_eq_true rfl) dL_areStars_125) ?_
                refine lv_icmp_ge (tgt := 183) hx hb dL_areStars_128 (by decide) (fun c_128 => absurd c_128 (nI_ge (a := r) (b := σ.1.2 1) (by omega) (by omega))) (fun c_128 => ?_)
                have n_128 := Int32.not_le.mp c_128
                refine lv_aload_n hx hb dL_areStars_131 rfl (lv_at hl 0 rfl) ?_
                refine lv_iload hx hb dL_areStars_132 (lv_at hl 7 rfl) ?_
                refine lv_iload hx hb dL_areStars_134 (lv_at hl 5 rfl) ?_
                refine core_p (v := .int (levI σ.1 (nI r) i)) (grV (n := 2) (As := [.int (nI r), .int (nI i)]) (rest := []) h0 hF (m_X9_levy h0 (cm := cm) (o := o) (σ := σ) hO (nI r) r rfl (by omega) (nI i) i rfl (by omega)) wm_L_107 wo_X9_levy ws_X9__X9_levy wz_X9 wc_X9_levy ⟨by decide, by decide, by decide +kernel⟩ rfl ⟨Nat.le_of_ble_eq_true rfl, Nat.le_of_ble_eq_true rfl⟩ (ci := 8) (SBH.rec hB) rfl hB hS hAo ⟨Nat.le_of_ble_eq_true rfl, Nat.le_of_ble_eq_true rfl⟩ hl.1 rfl (Nat.le_of_ble_eq_true rfl) dL_areStars_136) ?_
                have hJ_139 : ∀ v9 : Int32, v9 = levI σ.1 (nI r) i → W p l e ({ frames := 8, cells := 44, slots := 5720, locals := 192 } : Room) s m ([.ref o] : List Value).toArray below meth c s.heap [] 0 0 (MQ below (qM (fun v H => v = some (.int 1) ∧ SBH X cm o σ H) (gA X)) ([.ref o] : List Value).toArray s 44 5720 (gA X)) (F0 m 167 ls (.int v9 :: [.int (levI σ.1 (nI r) i)])) := by
                  intro v9 hv9
                  subst hv9
                  refine lv_icmp_ne (tgt := 174) hx hb dL_areStars_167 (by decide) (fun c_167 => absurd rfl c_167) (fun c_167 => ?_)
                  refine lv_iconst (v := 1) hx hb dL_areStars_170 (by decide) ?_
                  refine lv_goto (tgt := 175) hx hb dL_areStars_171 (by decide) ?_
                  refine lv_istore (lv' := [(4, .int 1), (0, .ref o), (1, .int ((nI (cN (fun z => !decide (σ.1.1 2 z = -4)) i)) + (bI (!decide (σ.1.1 2 i = -4))))), (2, .int ((sI (σ.1.1 3) i) + (σ.1.1 3 i))), (3, .int 0), (5, .int (nI i)), (6, .int (bI (isSeen σ.1 i))), (7, .int (nI r))]) hx hb dL_areStars_175 hl (by decide) rfl (fun ls hl => ?_)
                  refine lv_iinc (v := nI (r + 1)) (lv' := [(7, .int (nI (r + 1))), (4, .int 1), (0, .ref o), (1, .int ((nI (cN (fun z => !decide (σ.1.1 2 z = -4)) i)) + (bI (!decide (σ.1.1 2 i = -4))))), (2, .int ((sI (σ.1.1 3) i) + (σ.1.1 3 i))), (3, .int 0), (5, .int (nI i)), (6, .int (bI (isSeen σ.1 i)))]) hx hb dL_areStars_177 hl (k := 7) rfl (nI_1 r) (by decide) rfl (fun ls hl => ?_)
                  refine lv_goto (tgt := 116) hx hb dL_areStars_180 (by decide) ?_
                  refine ih_116 (r + 1) (by omega) ls (lv_eqv (lv_sub (l' := [(0, .ref o), (1, .int ((nI (cN (fun z => !decide (σ.1.1 2 z = -4)) i)) + (bI (!decide (σ.1.1 2 i = -4))))), (2, .int ((sI (σ.1.1 3) i) + (σ.1.1 3 i))), (3, .int 0), (4, .int 1), (5, .int (nI i)), (6, .int (bI (isSeen σ.1 i))), (7, .int (nI (r + 1)))]) hl [2, 3, 4, 5, 1, 6, 7, 0] rfl) ?_)
                  rfl
                refine lv_iload hx hb dL_areStars_139 (lv_at hl 6 rfl) ?_
                refine lv_if_eq (tgt := 166) hx hb dL_areStars_141 (by decide) (fun c_141 => ?_) (fun c_141 => ?_)
                · have n_141 := bI_0.mp c_141
                  refine lv_iconst (v := 0) hx hb dL_areStars_166 (by decide) ?_
                  exact hJ_139 _ (by simp [levI, n_141])
                · have n_141 := bI_n0.mp c_141
                  refine lv_aload_n hx hb dL_areStars_144 rfl (lv_at hl 0 rfl) ?_
                  refine lv_iload hx hb dL_areStars_145 (lv_at hl 5 rfl) ?_
                  refine lv_iconst (v := 3) hx hb dL_areStars_147 (by decide) ?_
                  refine core_p (v := .int (σ.1.1 2 i)) (grV (n := 2) (As := [.int (nI i), .int 3]) (rest := [.int (levI σ.1 (nI r) i)]) h0 hF (m_X9_starOf_3 h0 (cm := cm) (o := o) (σ := σ) hO (nI i) i rfl (by omega)) wm_L_95 wo_X9_starOf ws_X9__X9_starOf wz_X9 wc_X9_starOf ⟨by decide, by decide, by decide +kernel⟩ rfl ⟨Nat.le_of_ble_eq_true rfl, Nat.le_of_ble_eq_true rfl⟩ (ci := 8) (SBH.rec hB) rfl hB hS hAo ⟨Nat.le_of_ble_eq_true rfl, Nat.le_of_ble_eq_true rfl⟩ hl.1 rfl (Nat.le_of_ble_eq_true rfl) dL_areStars_148) ?_
                  refine lv_iload hx hb dL_areStars_151 (lv_at hl 7 rfl) ?_
                  refine lv_icmp_eq (tgt := 166) hx hb dL_areStars_153 (by decide) (fun c_153 => ?_) (fun c_153 => ?_)
                  · refine lv_iconst (v := 0) hx hb dL_areStars_166 (by decide) ?_
                    exact hJ_139 _ (by simp [levI, n_141, c_153])
                  · refine lv_aload_n hx hb dL_areStars_156 rfl (lv_at hl 0 rfl) ?_
                    refine lv_iload hx hb dL_areStars_157 (lv_at hl 5 rfl) ?_
                    refine lv_iconst (v := 0) hx hb dL_areStars_159 (by decide) ?_
                    refine core_p (v := .int (σ.1.1 0 i)) (grV (n := 2) (As := [.int (nI i), .int 0]) (rest := [.int (levI σ.1 (nI r) i)]) h0 hF (m_X9_starOf_0 h0 (cm := cm) (o := o) (σ := σ) hO (nI i) i rfl (by omega)) wm_L_95 wo_X9_starOf ws_X9__X9_starOf wz_X9 wc_X9_starOf ⟨by decide, by decide, by decide +kernel⟩ rfl ⟨Nat.le_of_ble_eq_true rfl, Nat.le_of_ble_eq_true rfl⟩ (ci := 8) (SBH.rec hB) rfl hB hS hAo ⟨Nat.le_of_ble_eq_true rfl, Nat.le_of_ble_eq_true rfl⟩ hl.1 rfl (Nat.le_of_ble_eq_true rfl) dL_areStars_160) ?_
                    refine lv_goto (tgt := 167) hx hb dL_areStars_163 (by decide) ?_
                    exact hJ_139 _ (by simp [levI, n_141, c_153])
            exact key_116 (σ.1.2 1) 0 (by omega) ls (lv_sub hl [5, 3, 2, 6, 1, 7, 4, 0] rfl)
          refine lv_aload_n hx hb dL_areStars_85 rfl (lv_at hl 3 rfl) ?_
          refine lv_iload hx hb dL_areStars_86 (lv_at hl 6 rfl) ?_
          refine lv_iconst (v := 2) hx hb dL_areStars_88 (by decide) ?_
          refine core_p (v := .int (bI (isSeen σ.1 i))) (grV (n := 2) (As := [.int (nI i), .int 2]) (rest := []) h0 hF (m_X9_starOf_2 h0 (cm := cm) (o := o) (σ := σ) hO (nI i) i rfl (by omega)) wm_L_95 wo_X9_starOf ws_X9__X9_starOf wz_X9 wc_X9_starOf ⟨by decide, by decide, by decide +kernel⟩ rfl ⟨Nat.le_of_ble_eq_true rfl, Nat.le_of_ble_eq_true rfl⟩ (ci := 8) (SBH.rec hB) rfl hB hS hAo ⟨Nat.le_of_ble_eq_true rfl, Nat.le_of_ble_eq_true rfl⟩ hl.1 rfl (Nat.le_of_ble_eq_true rfl) dL_areStars_89) ?_
          refine lv_iconst (v := 1) hx hb dL_areStars_92 (by decide) ?_
          refine lv_icmp_ne (tgt := 100) hx hb dL_areStars_93 (by decide) (fun c_93 => ?_) (fun c_93 => ?_)
          · refine lv_iconst (v := 0) hx hb dL_areStars_100 (by decide) ?_
            exact hJ_85 _ (by first | exact c_93.symm | exact bI_n1 c_93)
          · refine lv_iconst (v := 1) hx hb dL_areStars_96 (by decide) ?_
            refine lv_goto (tgt := 101) hx hb dL_areStars_97 (by decide) ?_
            exact hJ_85 _ (by first | exact c_93.symm | exact bI_n1 c_93)
        refine lv_aload_n hx hb dL_areStars_56 rfl (lv_at hl 1 rfl) ?_
        refine lv_iload hx hb dL_areStars_57 (lv_at hl 6 rfl) ?_
        refine lv_iconst (v := 3) hx hb dL_areStars_59 (by decide) ?_
        refine core_p (v := .int (σ.1.1 2 i)) (grV (n := 2) (As := [.int (nI i), .int 3]) (rest := [.int (nI (cN (fun z => !decide (σ.1.1 2 z = -4)) i))]) h0 hF (m_X9_starOf_3 h0 (cm := cm) (o := o) (σ := σ) hO (nI i) i rfl (by omega)) wm_L_95 wo_X9_starOf ws_X9__X9_starOf wz_X9 wc_X9_starOf ⟨by decide, by decide, by decide +kernel⟩ rfl ⟨Nat.le_of_ble_eq_true rfl, Nat.le_of_ble_eq_true rfl⟩ (ci := 8) (SBH.rec hB) rfl hB hS hAo ⟨Nat.le_of_ble_eq_true rfl, Nat.le_of_ble_eq_true rfl⟩ hl.1 rfl (Nat.le_of_ble_eq_true rfl) dL_areStars_60) ?_
        refine lv_bipush (v := (-4)) hx hb dL_areStars_63 (by decide) ?_
        refine lv_icmp_ne (tgt := 72) hx hb dL_areStars_65 (by decide) (fun c_65 => ?_) (fun c_65 => ?_)
        · refine lv_iconst (v := 1) hx hb dL_areStars_72 (by decide) ?_
          exact hJ_56 _ (by simp [bI, c_65])
        · refine lv_iconst (v := 0) hx hb dL_areStars_68 (by decide) ?_
          refine lv_goto (tgt := 73) hx hb dL_areStars_69 (by decide) ?_
          exact hJ_56 _ (by simp [bI, c_65])
      refine lv_aload_n hx hb dL_areStars_27 rfl (lv_at hl 0 rfl) ?_
      refine lv_iload hx hb dL_areStars_28 (lv_at hl 5 rfl) ?_
      refine lv_iconst (v := 0) hx hb dL_areStars_30 (by decide) ?_
      refine core_p (v := .int (σ.1.1 0 i)) (grV (n := 2) (As := [.int (nI i), .int 0]) (rest := []) h0 hF (m_X9_starOf_0 h0 (cm := cm) (o := o) (σ := σ) hO (nI i) i rfl (by omega)) wm_L_95 wo_X9_starOf ws_X9__X9_starOf wz_X9 wc_X9_starOf ⟨by decide, by decide, by decide +kernel⟩ rfl ⟨Nat.le_of_ble_eq_true rfl, Nat.le_of_ble_eq_true rfl⟩ (ci := 8) (SBH.rec hB) rfl hB hS hAo ⟨Nat.le_of_ble_eq_true rfl, Nat.le_of_ble_eq_true rfl⟩ hl.1 rfl (Nat.le_of_ble_eq_true rfl) dL_areStars_31) ?_
      refine lv_aload_n hx hb dL_areStars_34 rfl (lv_at hl 0 rfl) ?_
      refine lv_aload_n hx hb dL_areStars_35 rfl (lv_at hl 0 rfl) ?_
      refine lv_iload hx hb dL_areStars_36 (lv_at hl 5 rfl) ?_
      refine lv_iconst (v := 1) hx hb dL_areStars_38 (by decide) ?_
      refine core_p (v := .int (σ.1.1 1 i)) (grV (n := 2) (As := [.int (nI i), .int 1]) (rest := [.ref o, .int (σ.1.1 0 i)]) h0 hF (m_X9_starOf_1 h0 (cm := cm) (o := o) (σ := σ) hO (nI i) i rfl (by omega)) wm_L_95 wo_X9_starOf ws_X9__X9_starOf wz_X9 wc_X9_starOf ⟨by decide, by decide, by decide +kernel⟩ rfl ⟨Nat.le_of_ble_eq_true rfl, Nat.le_of_ble_eq_true rfl⟩ (ci := 8) (SBH.rec hB) rfl hB hS hAo ⟨Nat.le_of_ble_eq_true rfl, Nat.le_of_ble_eq_true rfl⟩ hl.1 rfl (Nat.le_of_ble_eq_true rfl) dL_areStars_39) ?_
      refine core_p (v := .int (σ.1.1 4 (sN σ.1 i))) (grV (n := 1) (As := [.int (σ.1.1 1 i)]) (rest := [.int (σ.1.1 0 i)]) h0 hF (m_X9_cloudOf h0 (cm := cm) (o := o) (σ := σ) hO (σ.1.1 1 i) (sN σ.1 i) ((hO.2.2.2.1 i hi_l).1) (hO.2.2.2.1 i hi_l).2) wm_L_92 wo_X9_cloudOf ws_X9__X9_cloudOf wz_X9 wc_X9_cloudOf ⟨by decide, by decide, by decide +kernel⟩ rfl ⟨Nat.le_of_ble_eq_true rfl, Nat.le_of_ble_eq_true rfl⟩ (ci := 8) (SBH.rec hB) rfl hB hS hAo ⟨Nat.le_of_ble_eq_true rfl, Nat.le_of_ble_eq_true rfl⟩ hl.1 rfl (Nat.le_of_ble_eq_true rfl) dL_areStars_42) ?_
      refine lv_icmp_le (tgt := 52) hx hb dL_areStars_45 (by decide) (fun c_45 => ?_) (fun c_45 => ?_)
      · have n_45 := Int32.not_lt.mpr c_45
        refine lv_iconst (v := 0) hx hb dL_areStars_52 (by decide) ?_
        exact hJ_27 _ (by simp [bI, isSeen, c_45, n_45])
      · have n_45 := Int32.not_le.mp c_45
        refine lv_iconst (v := 1) hx hb dL_areStars_48 (by decide) ?_
        refine lv_goto (tgt := 53) hx hb dL_areStars_49 (by decide) ?_
        exact hJ_27 _ (by simp [bI, isSeen, c_45, n_45])
  exact key_12 (σ.1.2 0) 0 (by omega) ls (lv_sub hl [5, 4, 3, 2, 1, 0] rfl)

def ownB (k : Sk) (r w : Nat) : Bool := decide (k.1 14 w = nI r)
def heldB (k : Sk) (r w : Nat) : Bool := ownB k r w && isImp k w
def heS (k : Sk) (r : Nat) : Nat → Int32
  | 0 => 0
  | q + 1 => heS k r q + (if heldB k r q = true then cost k q else 0)
def suN (F : Nat → Nat) : Nat → Nat
  | 0 => 0
  | n + 1 => suN F n + F n
theorem suN_s (F : Nat → Nat) (n : Nat) : nI (suN F n) + nI (F n) = nI (suN F (n + 1)) := nI_add _ _
/-- what the law asks of roofs and wishes -/
def RF (k : Sk) : Prop :=
  (∀ r, r < k.2 1 → roofV k r 3 = nI (cN (heldB k r) (k.2 2)) ∧ (∃ c, k.1 5 r = nI c ∧ c < 2 ^ 31) ∧ (∃ d, k.1 6 r = nI d ∧ d < 2 ^ 31) ∧ (∃ e, k.1 7 r = nI e ∧ e < 2 ^ 31) ∧ k.1 13 r &&& (k.1 12 r ^^^ (-1)) = 0 ∧ couN k r ≤ nI (cN (heldB k r) (k.2 2)) ∧ (couN k r = nI (cN (heldB k r) (k.2 2)) ↔ heS k r (k.2 2) ≤ k.1 5 r)) ∧
  (∀ w, w < k.2 2 → k.1 18 w = -4 ∨ (0 ≤ k.1 18 w ∧ k.1 18 w < 3)) ∧
  nI (suN (fun r => cN (ownB k r) (k.2 2)) (k.2 1)) = nI (k.2 2) ∧
  nI (suN (fun r => cN (heldB k r) (k.2 2)) (k.2 1)) = nI (k.2 2) - nI (cN (fun z => decide (k.1 18 z = -4)) (k.2 2)) ∧
  nI (suN (fun r => cN (fun z => decide (k.1 2 z = nI r)) (k.2 0)) (k.2 1)) = accV k 4
theorem held_5 {k : Sk} {r q : Nat} (h : heldB k r q = true) : wishV k q 5 = if heldB k r q = true then cost k q else 0 := by
  rw [if_pos h]
  unfold heldB at h
  have := (Bool.and_eq_true _ _ ▸ h : ownB k r q = true ∧ isImp k q = true).2
  show (if isImp k q = true then cost k q else -4) = _
  rw [if_pos this]
theorem wish5_f {k : Sk} {v : Nat} (h : k.1 18 v = -4) : wishV k v 5 = -4 := by
  unfold wishV isImp
  rw [h]
  rfl
theorem wish5_t {k : Sk} {v : Nat} (h : ¬ k.1 18 v = -4) : wishV k v 5 = k.1 18 v + k.1 0 (wS k v) := by
  show (if isImp k v = true then cost k v else -4) = _
  rw [if_pos (by unfold isImp; rw [decide_eq_false h]; rfl)]
  unfold cost
  exact Int32.add_comm _ _
theorem fc_0 : Op.cmpValue (FP.fcmp FP.fconst0 FP.fconst0) .l = 0 := by decide +kernel
theorem fc_n : ∀ n, n < 9 → ∀ k, k < 9 → 0 < n → k ≤ n → Op.cmpValue (FP.fcmp (FP.fdiv (FP.i2f (nI n - nI k)) (FP.i2f (nI n))) (FP.fdiv (FP.i2f (nI n - nI k)) (FP.i2f (nI n)))) .l = 0 := by decide +kernel

set_option maxHeartbeats 4000000 in
set_option maxRecDepth 100000 in
theorem m_L_areRoofs {X : Cx} {l : Launch} (h0 : Init X) {cm : Nat → Nat} {o : Nat} {σ : Sb} (hO : Ok σ.1) (hW : Well σ.1) (hR : RF σ.1) : MM X l yL_areRoofs cL_areRoofs 15 (some .boolean) 8 191 50 6500 [.ref o] (SBH X cm o σ) (fun v H => v = some (.int 1) ∧ SBH X cm o σ H) (gA X) := by
  refine Met.mk (Bh := (SBH X cm o σ)) (by decide) (Nat.le_of_ble_eq_true rfl) ?_
  intro p e s m below meth c ls hF hB hl
  have hT1 := hR.2.2.1
  have hT2 := hR.2.2.2.1
  have hT5 := hR.2.2.2.2
  have hl : lv_has ls 15 [(0, .ref o)] := hl
  obtain ⟨hx, hb, hml, hr, hlk, hown, hG⟩ := id hF
  have hK := hG.K h0
  have hS : va_S (gA X) s.heap s.heap [] := va_S.rf
  have hAo : ∀ q, q < X.z → ¬ gA X q := fun q h9 (h8 : X.z ≤ q) => by omega
  have hO1 := hO.1
  have hO2 := hO.2.1
  have hO3 := hO.2.2.1
  refine lv_iconst (v := 0) hx hb dL_areRoofs_0 (by decide) ?_
  refine lv_istore_n (lv' := [(1, .int 0), (0, .ref o)]) hx hb dL_areRoofs_1 rfl hl (by decide) rfl (fun ls hl => ?_)
  refine lv_iconst (v := 0) hx hb dL_areRoofs_2 (by decide) ?_
  refine lv_istore_n (lv' := [(2, .int 0), (1, .int 0), (0, .ref o)]) hx hb dL_areRoofs_3 rfl hl (by decide) rfl (fun ls hl => ?_)
  refine lv_iconst (v := 0) hx hb dL_areRoofs_4 (by decide) ?_
  refine lv_istore_n (lv' := [(3, .int 0), (2, .int 0), (1, .int 0), (0, .ref o)]) hx hb dL_areRoofs_5 rfl hl (by decide) rfl (fun ls hl => ?_)
  refine lv_iconst (v := 0) hx hb dL_areRoofs_6 (by decide) ?_
  refine lv_istore (lv' := [(4, .int 0), (3, .int 0), (2, .int 0), (1, .int 0), (0, .ref o)]) hx hb dL_areRoofs_7 hl (by decide) rfl (fun ls hl => ?_)
  refine lv_iconst (v := 0) hx hb dL_areRoofs_9 (by decide) ?_
  refine lv_istore (lv' := [(5, .int 0), (4, .int 0), (3, .int 0), (2, .int 0), (1, .int 0), (0, .ref o)]) hx hb dL_areRoofs_10 hl (by decide) rfl (fun ls hl => ?_)
  refine lv_iconst (v := 1) hx hb dL_areRoofs_12 (by decide) ?_
  refine lv_istore (lv' := [(6, .int 1), (5, .int 0), (4, .int 0), (3, .int 0), (2, .int 0), (1, .int 0), (0, .ref o)]) hx hb dL_areRoofs_13 hl (by decide) rfl (fun ls hl => ?_)
  refine lv_iconst (v := 0) hx hb dL_areRoofs_15 (by decide) ?_
  refine lv_istore (lv' := [(7, .int 0), (6, .int 1), (5, .int 0), (4, .int 0), (3, .int 0), (2, .int 0), (1, .int 0), (0, .ref o)]) hx hb dL_areRoofs_16 hl (by decide) rfl (fun ls hl => ?_)
  have key_18 : ∀ (nf r : Nat), r + nf = σ.1.2 1 → ∀ (H : Heap) (locs : List Loc), SBH X cm o σ H → va_S (gA X) s.heap H locs → ∀ (ls : Array Slot), lv_has ls 15 [(0, .ref o), (1, .int (nI (suN (fun y => cN (ownB σ.1 y) (σ.1.2 2)) r))), (2, .int (nI (suN (fun y => cN (heldB σ.1 y) (σ.1.2 2)) r))), (3, .int (sI (σ.1.1 10) r)), (4, .int (sI (σ.1.1 11) r)), (5, .int (nI (suN (fun y => cN (fun z => decide (σ.1.1 2 z = nI y)) (σ.1.2 0)) r))), (6, .int 1), (7, .int (nI r))] → W p l e ({ frames := 8, cells := 50, slots := 6500, locals := 191 } : Room) s m ([.ref o] : List Value).toArray below meth c H locs (10 * r) (1300 * r) (MQ below (qM (fun v H => v = some (.int 1) ∧ SBH X cm o σ H) (gA X)) ([.ref o] : List Value).toArray s 50 6500 (gA X)) (F0 m 18 ls []) := by
    intro nf
    induction nf with
    | zero =>
      intro r hr H locs hB hS ls hl
      have hr_e : r = σ.1.2 1 := by omega
      subst hr_e
      refine lv_iload hx hb dL_areRoofs_18 (lv_at hl 6 rfl) ?_
      refine lv_if_eq (tgt := 388) hx hb dL_areRoofs_20 (by decide) (fun c_20 => absurd c_20 (by decide)) (fun c_20 => ?_)
      refine lv_iload hx hb dL_areRoofs_23 (lv_at hl 7 rfl) ?_
      refine lv_aload_n hx hb dL_areRoofs_25 rfl (lv_at hl 0 rfl) ?_
      refine lv_iconst (v := 1) hx hb dL_areRoofs_26 (by decide) ?_
      refine core_p (v := .int (nI (σ.1.2 1))) (grV (n := 1) (As := [.int 1]) (rest := [.int (nI (σ.1.2 1))]) h0 hF (m_X9_account_1 h0 (cm := cm) (o := o) (σ := σ) hO) wm_L_89 wo_X9_account ws_X9__X9_account wz_X9 wc_X9_account ⟨by decide, by decide, by decide +kernel⟩ rfl ⟨Nat.le_of_ble_eq_true rfl, Nat.le_of_ble_eq_true rfl⟩ (ci := 8) (SBH.rec hB) rfl hB hS hAo ⟨by show 10 * (σ.1.2 1) + 0 ≤ 50; omega, by show 1300 * (σ.1.2 1) + 0 ≤ 6500; omega⟩ hl.1 rfl (Nat.le_of_ble_eq_true rfl) dL_areRoofs_27) ?_
      refine lv_icmp_ge (tgt := 388) hx hb dL_areRoofs_30 (by decide) (fun c_30 => ?_) (fun c_30 => absurd (nI_le (a := σ.1.2 1) (b := σ.1.2 1) (by omega) (by omega)) c_30)
      have n_30 := Int32.not_lt.mpr c_30
      refine lv_iconst (v := 0) hx hb dL_areRoofs_388 (by decide) ?_
      refine lv_istore (lv' := [(7, .int 0), (0, .ref o), (1, .int (nI (suN (fun y => cN (ownB σ.1 y) (σ.1.2 2)) (σ.1.2 1)))), (2, .int (nI (suN (fun y => cN (heldB σ.1 y) (σ.1.2 2)) (σ.1.2 1)))), (3, .int (sI (σ.1.1 10) (σ.1.2 1))), (4, .int (sI (σ.1.1 11) (σ.1.2 1))), (5, .int (nI (suN (fun y => cN (fun z => decide (σ.1.1 2 z = nI y)) (σ.1.2 0)) (σ.1.2 1)))), (6, .int 1)]) hx hb dL_areRoofs_389 hl (by decide) rfl (fun ls hl => ?_)
      have key_391 : ∀ (nf v : Nat), v + nf = σ.1.2 2 → ∀ (ls : Array Slot), lv_has ls 15 [(0, .ref o), (1, .int (nI (suN (fun y => cN (ownB σ.1 y) (σ.1.2 2)) (σ.1.2 1)))), (2, .int (nI (suN (fun y => cN (heldB σ.1 y) (σ.1.2 2)) (σ.1.2 1)))), (3, .int (sI (σ.1.1 10) (σ.1.2 1))), (4, .int (sI (σ.1.1 11) (σ.1.2 1))), (5, .int (nI (suN (fun y => cN (fun z => decide (σ.1.1 2 z = nI y)) (σ.1.2 0)) (σ.1.2 1)))), (6, .int 1), (7, .int (nI v))] → W p l e ({ frames := 8, cells := 50, slots := 6500, locals := 191 } : Room) s m ([.ref o] : List Value).toArray below meth c H locs (10 * (σ.1.2 1)) (1300 * (σ.1.2 1)) (MQ below (qM (fun v H => v = some (.int 1) ∧ SBH X cm o σ H) (gA X)) ([.ref o] : List Value).toArray s 50 6500 (gA X)) (F0 m 391 ls []) := by
        intro nf
        induction nf with
        | zero =>
          intro v hv ls hl
          have hv_e : v = σ.1.2 2 := by omega
          subst hv_e
          refine lv_iload hx hb dL_areRoofs_391 (lv_at hl 6 rfl) ?_
          refine lv_if_eq (tgt := 491) hx hb dL_areRoofs_393 (by decide) (fun c_393 => absurd c_393 (by decide)) (fun c_393 => ?_)
          refine lv_iload hx hb dL_areRoofs_396 (lv_at hl 7 rfl) ?_
          refine lv_aload_n hx hb dL_areRoofs_398 rfl (lv_at hl 0 rfl) ?_
          refine lv_iconst (v := 2) hx hb dL_areRoofs_399 (by decide) ?_
          refine core_p (v := .int (nI (σ.1.2 2))) (grV (n := 1) (As := [.int 2]) (rest := [.int (nI (σ.1.2 2))]) h0 hF (m_X9_account_2 h0 (cm := cm) (o := o) (σ := σ) hO) wm_L_89 wo_X9_account ws_X9__X9_account wz_X9 wc_X9_account ⟨by decide, by decide, by decide +kernel⟩ rfl ⟨Nat.le_of_ble_eq_true rfl, Nat.le_of_ble_eq_true rfl⟩ (ci := 8) (SBH.rec hB) rfl hB hS hAo ⟨by show 10 * (σ.1.2 1) + 0 ≤ 50; omega, by show 1300 * (σ.1.2 1) + 0 ≤ 6500; omega⟩ hl.1 rfl (Nat.le_of_ble_eq_true rfl) dL_areRoofs_400) ?_
          refine lv_icmp_ge (tgt := 491) hx hb dL_areRoofs_403 (by decide) (fun c_403 => ?_) (fun c_403 => absurd (nI_le (a := σ.1.2 2) (b := σ.1.2 2) (by omega) (by omega)) c_403)
          have n_403 := Int32.not_lt.mpr c_403
          refine lv_iload hx hb dL_areRoofs_491 (lv_at hl 6 rfl) ?_
          refine lv_if_eq (tgt := 570) hx hb dL_areRoofs_493 (by decide) (fun c_493 => absurd c_493 (by decide)) (fun c_493 => ?_)
          refine lv_iload_n hx hb dL_areRoofs_496 rfl (lv_at hl 1 rfl) ?_
          refine lv_aload_n hx hb dL_areRoofs_497 rfl (lv_at hl 0 rfl) ?_
          refine lv_iconst (v := 2) hx hb dL_areRoofs_498 (by decide) ?_
          refine core_p (v := .int (nI (σ.1.2 2))) (grV (n := 1) (As := [.int 2]) (rest := [.int (nI (suN (fun y => cN (ownB σ.1 y) (σ.1.2 2)) (σ.1.2 1)))]) h0 hF (m_X9_account_2 h0 (cm := cm) (o := o) (σ := σ) hO) wm_L_89 wo_X9_account ws_X9__X9_account wz_X9 wc_X9_account ⟨by decide, by decide, by decide +kernel⟩ rfl ⟨Nat.le_of_ble_eq_true rfl, Nat.le_of_ble_eq_true rfl⟩ (ci := 8) (SBH.rec hB) rfl hB hS hAo ⟨by show 10 * (σ.1.2 1) + 0 ≤ 50; omega, by show 1300 * (σ.1.2 1) + 0 ≤ 6500; omega⟩ hl.1 rfl (Nat.le_of_ble_eq_true rfl) dL_areRoofs_499) ?_
          refine lv_icmp_ne (tgt := 570) hx hb dL_areRoofs_502 (by decide) (fun c_502 => absurd hT1 c_502) (fun c_502 => ?_)
          refine lv_iload_n hx hb dL_areRoofs_505 rfl (lv_at hl 2 rfl) ?_
          refine lv_aload_n hx hb dL_areRoofs_506 rfl (lv_at hl 0 rfl) ?_
          refine lv_iconst (v := 3) hx hb dL_areRoofs_507 (by decide) ?_
          refine core_p (v := .int (accV σ.1 3)) (grV (n := 1) (As := [.int 3]) (rest := [.int (nI (suN (fun y => cN (heldB σ.1 y) (σ.1.2 2)) (σ.1.2 1)))]) h0 hF (m_X9_account_3 h0 (cm := cm) (o := o) (σ := σ) hO) wm_L_89 wo_X9_account ws_X9__X9_account wz_X9 wc_X9_account ⟨by decide, by decide, by decide +kernel⟩ rfl ⟨Nat.le_of_ble_eq_true rfl, Nat.le_of_ble_eq_true rfl⟩ (ci := 8) (SBH.rec hB) rfl hB hS hAo ⟨by show 10 * (σ.1.2 1) + 0 ≤ 50; omega, by show 1300 * (σ.1.2 1) + 0 ≤ 6500; omega⟩ hl.1 rfl (Nat.le_of_ble_eq_true rfl) dL_areRoofs_508) ?_
          refine lv_icmp_ne (tgt := 570) hx hb dL_areRoofs_511 (by decide) (fun c_511 => absurd hT2 c_511) (fun c_511 => ?_)
          refine lv_iload_n hx hb dL_areRoofs_514 rfl (lv_at hl 3 rfl) ?_
          refine lv_aload_n hx hb dL_areRoofs_515 rfl (lv_at hl 0 rfl) ?_
          refine lv_bipush (v := 10) hx hb dL_areRoofs_516 (by decide) ?_
          refine core_p (v := .int (sI (σ.1.1 10) (σ.1.2 1))) (grV (n := 1) (As := [.int 10]) (rest := [.int (sI (σ.1.1 10) (σ.1.2 1))]) h0 hF (m_X9_account_10 h0 (cm := cm) (o := o) (σ := σ) hO) wm_L_89 wo_X9_account ws_X9__X9_account wz_X9 wc_X9_account ⟨by decide, by decide, by decide +kernel⟩ rfl ⟨Nat.le_of_ble_eq_true rfl, Nat.le_of_ble_eq_true rfl⟩ (ci := 8) (SBH.rec hB) rfl hB hS hAo ⟨by show 10 * (σ.1.2 1) + 0 ≤ 50; omega, by show 1300 * (σ.1.2 1) + 0 ≤ 6500; omega⟩ hl.1 rfl (Nat.le_of_ble_eq_true rfl) dL_areRoofs_518) ?_
          refine lv_icmp_ne (tgt := 570) hx hb dL_areRoofs_521 (by decide) (fun c_521 => absurd rfl c_521) (fun c_521 => ?_)
          refine lv_iload hx hb dL_areRoofs_524 (lv_at hl 4 rfl) ?_
          refine lv_aload_n hx hb dL_areRoofs_526 rfl (lv_at hl 0 rfl) ?_
          refine lv_bipush (v := 11) hx hb dL_areRoofs_527 (by decide) ?_
          refine core_p (v := .int (sI (σ.1.1 11) (σ.1.2 1))) (grV (n := 1) (As := [.int 11]) (rest := [.int (sI (σ.1.1 11) (σ.1.2 1))]) h0 hF (m_X9_account_11 h0 (cm := cm) (o := o) (σ := σ) hO) wm_L_89 wo_X9_account ws_X9__X9_account wz_X9 wc_X9_account ⟨by decide, by decide, by decide +kernel⟩ rfl ⟨Nat.le_of_ble_eq_true rfl, Nat.le_of_ble_eq_true rfl⟩ (ci := 8) (SBH.rec hB) rfl hB hS hAo ⟨by show 10 * (σ.1.2 1) + 0 ≤ 50; omega, by show 1300 * (σ.1.2 1) + 0 ≤ 6500; omega⟩ hl.1 rfl (Nat.le_of_ble_eq_true rfl) dL_areRoofs_529) ?_
          refine lv_icmp_ne (tgt := 570) hx hb dL_areRoofs_532 (by decide) (fun c_532 => absurd rfl c_532) (fun c_532 => ?_)
          refine lv_iload hx hb dL_areRoofs_535 (lv_at hl 5 rfl) ?_
          refine lv_aload_n hx hb dL_areRoofs_537 rfl (lv_at hl 0 rfl) ?_
          refine lv_iconst (v := 4) hx hb dL_areRoofs_538 (by decide) ?_
          refine core_p (v := .int (accV σ.1 4)) (grV (n := 1) (As := [.int 4]) (rest := [.int (nI (suN (fun y => cN (fun z => decide (σ.1.1 2 z = nI y)) (σ.1.2 0)) (σ.1.2 1)))]) h0 hF (m_X9_account_4 h0 (cm := cm) (o := o) (σ := σ) hO) wm_L_89 wo_X9_account ws_X9__X9_account wz_X9 wc_X9_account ⟨by decide, by decide, by decide +kernel⟩ rfl ⟨Nat.le_of_ble_eq_true rfl, Nat.le_of_ble_eq_true rfl⟩ (ci := 8) (SBH.rec hB) rfl hB hS hAo ⟨by show 10 * (σ.1.2 1) + 0 ≤ 50; omega, by show 1300 * (σ.1.2 1) + 0 ≤ 6500; omega⟩ hl.1 rfl (Nat.le_of_ble_eq_true rfl) dL_areRoofs_539) ?_
          refine lv_icmp_ne (tgt := 570) hx hb dL_areRoofs_542 (by decide) (fun c_542 => absurd hT5 c_542) (fun c_542 => ?_)
          rcases Nat.eq_zero_or_pos (σ.1.2 2) with hn0 | hn0
          · refine lv_aload_n hx hb dL_areRoofs_545 rfl (lv_at hl 0 rfl) ?_
            refine core_p (v := .float FP.fconst0) (grV (n := 0) (As := []) (rest := []) h0 hF (m_X9_poundShare_0 h0 (cm := cm) (o := o) (σ := σ) hn0) wm_L_147 wo_X9_poundShare ws_X9__X9_poundShare wz_X9 wc_X9_poundShare ⟨by decide, by decide, by decide +kernel⟩ rfl ⟨Nat.le_of_ble_eq_true rfl, Nat.le_of_ble_eq_true rfl⟩ (ci := 8) (SBH.rec hB) rfl hB hS hAo ⟨by show 10 * (σ.1.2 1) + 0 ≤ 50; omega, by show 1300 * (σ.1.2 1) + 0 ≤ 6500; omega⟩ hl.1 rfl (Nat.le_of_ble_eq_true rfl) dL_areRoofs_546) ?_
            refine lv_iload_n hx hb dL_areRoofs_549 rfl (lv_at hl 1 rfl) ?_
            refine lv_if_ne (tgt := 557) hx hb dL_areRoofs_550 (by decide) (fun c_550 => absurd (hT1.trans (by rw [hn0]; rfl)) c_550) (fun c_550 => ?_)
            refine lv_fconst0 hx hb dL_areRoofs_553 ?_
            refine lv_goto (tgt := 562) hx hb dL_areRoofs_554 (by decide) ?_
            refine lv_fcmp hx hb dL_areRoofs_562 ?_
            refine lv_topE (y := 0) (by first | exact fc_0 | exact fc_n _ (by omega) _ (by have := cN_le (fun z => decide (σ.1.1 18 z = -4)) (σ.1.2 2); omega) hn0 (cN_le _ _)) ?_
            refine lv_if_ne (tgt := 570) hx hb dL_areRoofs_563 (by decide) (fun c_563 => absurd c_563 (by decide)) (fun c_563 => ?_)
            refine lv_iconst (v := 1) hx hb dL_areRoofs_566 (by decide) ?_
            refine lv_goto (tgt := 571) hx hb dL_areRoofs_567 (by decide) ?_
            refine W.widen (k := 50) (n := 6500) (by omega) (by omega) ?_
            exact mm_zret hF hS dL_areRoofs_571 rfl (⟨rfl, hB⟩)
          · refine lv_aload_n hx hb dL_areRoofs_545 rfl (lv_at hl 0 rfl) ?_
            refine core_p (v := .float (FP.fdiv (FP.i2f (nI (σ.1.2 2) - nI (cN (fun z => decide (σ.1.1 18 z = -4)) (σ.1.2 2)))) (FP.i2f (nI (σ.1.2 2))))) (grV (n := 0) (As := []) (rest := []) h0 hF (m_X9_poundShare_1 h0 (cm := cm) (o := o) (σ := σ) hO hn0) wm_L_147 wo_X9_poundShare ws_X9__X9_poundShare wz_X9 wc_X9_poundShare ⟨by decide, by decide, by decide +kernel⟩ rfl ⟨Nat.le_of_ble_eq_true rfl, Nat.le_of_ble_eq_true rfl⟩ (ci := 8) (SBH.rec hB) rfl hB hS hAo ⟨by show 10 * (σ.1.2 1) + 0 ≤ 50; omega, by show 1300 * (σ.1.2 1) + 0 ≤ 6500; omega⟩ hl.1 rfl (Nat.le_of_ble_eq_true rfl) dL_areRoofs_546) ?_
            refine lv_iload_n hx hb dL_areRoofs_549 rfl (lv_at hl 1 rfl) ?_
            refine lv_if_ne (tgt := 557) hx hb dL_areRoofs_550 (by decide) (fun c_550 => ?_) (fun c_550 => absurd (hT1.symm.trans c_550) (nI_ne0 hn0 (by omega)))
            refine lv_iload_n hx hb dL_areRoofs_557 rfl (lv_at hl 2 rfl) ?_
            refine lv_topE (y := (nI (σ.1.2 2) - nI (cN (fun z => decide (σ.1.1 18 z = -4)) (σ.1.2 2)))) (hT2) ?_
            refine lv_i2f hx hb dL_areRoofs_558 ?_
            refine lv_iload_n hx hb dL_areRoofs_559 rfl (lv_at hl 1 rfl) ?_
            refine lv_topE (y := nI (σ.1.2 2)) (hT1) ?_
            refine lv_i2f hx hb dL_areRoofs_560 ?_
            refine lv_fdiv hx hb dL_areRoofs_561 (nn_f _ (by omega) _ (by have := cN_le (fun z => decide (σ.1.1 18 z = -4)) (σ.1.2 2); omega) hn0 (cN_le _ _)) ?_
            refine lv_fcmp hx hb dL_areRoofs_562 ?_
            refine lv_topE (y := 0) (by first | exact fc_0 | exact fc_n _ (by omega) _ (by have := cN_le (fun z => decide (σ.1.1 18 z = -4)) (σ.1.2 2); omega) hn0 (cN_le _ _)) ?_
            refine lv_if_ne (tgt := 570) hx hb dL_areRoofs_563 (by decide) (fun c_563 => absurd c_563 (by decide)) (fun c_563 => ?_)
            refine lv_iconst (v := 1) hx hb dL_areRoofs_566 (by decide) ?_
            refine lv_goto (tgt := 571) hx hb dL_areRoofs_567 (by decide) ?_
            refine W.widen (k := 50) (n := 6500) (by omega) (by omega) ?_
            exact mm_zret hF hS dL_areRoofs_571 rfl (⟨rfl, hB⟩)
        | succ nf ih_391 =>
          intro v hv ls hl
          have hv_l : v < σ.1.2 2 := by omega
          have hR3 := fun h : ¬ σ.1.1 18 v = -4 => (hR.2.1 v hv_l).resolve_left h
          refine lv_iload hx hb dL_areRoofs_391 (lv_at hl 6 rfl) ?_
          refine lv_if_eq (tgt := 491) hx hb dL_areRoofs_393 (by decide) (fun c_393 => absurd c_393 (by decide)) (fun c_393 => ?_)
          refine lv_iload hx hb dL_areRoofs_396 (lv_at hl 7 rfl) ?_
          refine lv_aload_n hx hb dL_areRoofs_398 rfl (lv_at hl 0 rfl) ?_
          refine lv_iconst (v := 2) hx hb dL_areRoofs_399 (by decide) ?_
          refine core_p (v := .int (nI (σ.1.2 2))) (grV (n := 1) (As := [.int 2]) (rest := [.int (nI v)]) h0 hF (m_X9_account_2 h0 (cm := cm) (o := o) (σ := σ) hO) wm_L_89 wo_X9_account ws_X9__X9_account wz_X9 wc_X9_account ⟨by decide, by decide, by decide +kernel⟩ rfl ⟨Nat.le_of_ble_eq_true rfl, Nat.le_of_ble_eq_true rfl⟩ (ci := 8) (SBH.rec hB) rfl hB hS hAo ⟨by show 10 * (σ.1.2 1) + 0 ≤ 50; omega, by show 1300 * (σ.1.2 1) + 0 ≤ 6500; omega⟩ hl.1 rfl (Nat.le_of_ble_eq_true rfl) dL_areRoofs_400) ?_
          refine lv_icmp_ge (tgt := 491) hx hb dL_areRoofs_403 (by decide) (fun c_403 => absurd c_403 (nI_ge (a := v) (b := σ.1.2 2) (by omega) (by omega))) (fun c_403 => ?_)
          have n_403 := Int32.not_le.mp c_403
          refine lv_aload_n hx hb dL_areRoofs_406 rfl (lv_at hl 0 rfl) ?_
          refine lv_iload hx hb dL_areRoofs_407 (lv_at hl 7 rfl) ?_
          refine lv_iconst (v := 4) hx hb dL_areRoofs_409 (by decide) ?_
          refine core_p (v := .int (σ.1.1 18 v)) (grV (n := 2) (As := [.int (nI v), .int 4]) (rest := []) h0 hF (m_X9_wishOf_4 h0 (cm := cm) (o := o) (σ := σ) hO (nI v) v rfl (by omega)) wm_L_104 wo_X9_wishOf ws_X9__X9_wishOf wz_X9 wc_X9_wishOf ⟨by decide, by decide, by decide +kernel⟩ rfl ⟨Nat.le_of_ble_eq_true rfl, Nat.le_of_ble_eq_true rfl⟩ (ci := 8) (SBH.rec hB) rfl hB hS hAo ⟨by show 10 * (σ.1.2 1) + 0 ≤ 50; omega, by show 1300 * (σ.1.2 1) + 0 ≤ 6500; omega⟩ hl.1 rfl (Nat.le_of_ble_eq_true rfl) dL_areRoofs_410) ?_
          refine lv_istore (lv' := [(8, .int (σ.1.1 18 v)), (0, .ref o), (1, .int (nI (suN (fun y => cN (ownB σ.1 y) (σ.1.2 2)) (σ.1.2 1)))), (2, .int (nI (suN (fun y => cN (heldB σ.1 y) (σ.1.2 2)) (σ.1.2 1)))), (3, .int (sI (σ.1.1 10) (σ.1.2 1))), (4, .int (sI (σ.1.1 11) (σ.1.2 1))), (5, .int (nI (suN (fun y => cN (fun z => decide (σ.1.1 2 z = nI y)) (σ.1.2 0)) (σ.1.2 1)))), (6, .int 1), (7, .int (nI v))]) hx hb dL_areRoofs_413 hl (by decide) rfl (fun ls hl => ?_)
          have hJ_415 : ∀ v9 : Int32, v9 = 1 → W p l e ({ frames := 8, cells := 50, slots := 6500, locals := 191 } : Room) s m ([.ref o] : List Value).toArray below meth c H locs (10 * (σ.1.2 1)) (1300 * (σ.1.2 1)) (MQ below (qM (fun v H => v = some (.int 1) ∧ SBH X cm o σ H) (gA X)) ([.ref o] : List Value).toArray s 50 6500 (gA X)) (F0 m 483 ls (.int v9 :: [])) := by
            intro v9 hv9
            subst hv9
            refine lv_istore (lv' := [(6, .int 1), (8, .int (σ.1.1 18 v)), (0, .ref o), (1, .int (nI (suN (fun y => cN (ownB σ.1 y) (σ.1.2 2)) (σ.1.2 1)))), (2, .int (nI (suN (fun y => cN (heldB σ.1 y) (σ.1.2 2)) (σ.1.2 1)))), (3, .int (sI (σ.1.1 10) (σ.1.2 1))), (4, .int (sI (σ.1.1 11) (σ.1.2 1))), (5, .int (nI (suN (fun y => cN (fun z => decide (σ.1.1 2 z = nI y)) (σ.1.2 0)) (σ.1.2 1)))), (7, .int (nI v))]) hx hb dL_areRoofs_483 hl (by decide) rfl (fun ls hl => ?_)
            refine lv_iinc (v := nI (v + 1)) (lv' := [(7, .int (nI (v + 1))), (6, .int 1), (8, .int (σ.1.1 18 v)), (0, .ref o), (1, .int (nI (suN (fun y => cN (ownB σ.1 y) (σ.1.2 2)) (σ.1.2 1)))), (2, .int (nI (suN (fun y => cN (heldB σ.1 y) (σ.1.2 2)) (σ.1.2 1)))), (3, .int (sI (σ.1.1 10) (σ.1.2 1))), (4, .int (sI (σ.1.1 11) (σ.1.2 1))), (5, .int (nI (suN (fun y => cN (fun z => decide (σ.1.1 2 z = nI y)) (σ.1.2 0)) (σ.1.2 1))))]) hx hb dL_areRoofs_485 hl (k := 8) rfl (nI_1 v) (by decide) rfl (fun ls hl => ?_)
            refine lv_goto (tgt := 391) hx hb dL_areRoofs_488 (by decide) ?_
            refine ih_391 (v + 1) (by omega) ls (lv_eqv (lv_sub (l' := [(0, .ref o), (1, .int (nI (suN (fun y => cN (ownB σ.1 y) (σ.1.2 2)) (σ.1.2 1)))), (2, .int (nI (suN (fun y => cN (heldB σ.1 y) (σ.1.2 2)) (σ.1.2 1)))), (3, .int (sI (σ.1.1 10) (σ.1.2 1))), (4, .int (sI (σ.1.1 11) (σ.1.2 1))), (5, .int (nI (suN (fun y => cN (fun z => decide (σ.1.1 2 z = nI y)) (σ.1.2 0)) (σ.1.2 1)))), (6, .int 1), (7, .int (nI (v + 1)))]) hl [3, 4, 5, 6, 7, 8, 1, 0] rfl) ?_)
            rfl
          refine lv_iload hx hb dL_areRoofs_415 (lv_at hl 0 rfl) ?_
          refine lv_bipush (v := (-4)) hx hb dL_areRoofs_417 (by decide) ?_
          refine lv_icmp_ne (tgt := 442) hx hb dL_areRoofs_419 (by decide) (fun c_419 => ?_) (fun c_419 => ?_)
          · refine lv_iload hx hb dL_areRoofs_442 (lv_at hl 0 rfl) ?_
            refine lv_if_lt (tgt := 482) hx hb dL_areRoofs_444 (by decide) (fun c_444 => absurd c_444 (Int32.not_lt.mpr (hR3 c_419).1)) (fun c_444 => ?_)
            have n_444 := Int32.not_lt.mp c_444
            refine lv_iload hx hb dL_areRoofs_447 (lv_at hl 0 rfl) ?_
            refine lv_iconst (v := 3) hx hb dL_areRoofs_449 (by decide) ?_
            refine lv_icmp_ge (tgt := 482) hx hb dL_areRoofs_450 (by decide) (fun c_450 => absurd c_450 (Int32.not_le.mpr (hR3 c_419).2)) (fun c_450 => ?_)
            have n_450 := Int32.not_le.mp c_450
            refine lv_aload_n hx hb dL_areRoofs_453 rfl (lv_at hl 1 rfl) ?_
            refine lv_iload hx hb dL_areRoofs_454 (lv_at hl 8 rfl) ?_
            refine lv_iconst (v := 5) hx hb dL_areRoofs_456 (by decide) ?_
            refine core_p (v := .int (wishV σ.1 v 5)) (grV (n := 2) (As := [.int (nI v), .int 5]) (rest := []) h0 hF (m_X9_wishOf_5 h0 (cm := cm) (o := o) (σ := σ) hO (nI v) v rfl (by omega)) wm_L_104 wo_X9_wishOf ws_X9__X9_wishOf wz_X9 wc_X9_wishOf ⟨by decide, by decide, by decide +kernel⟩ rfl ⟨Nat.le_of_ble_eq_true rfl, Nat.le_of_ble_eq_true rfl⟩ (ci := 8) (SBH.rec hB) rfl hB hS hAo ⟨by show 10 * (σ.1.2 1) + 0 ≤ 50; omega, by show 1300 * (σ.1.2 1) + 0 ≤ 6500; omega⟩ hl.1 rfl (Nat.le_of_ble_eq_true rfl) dL_areRoofs_457) ?_
            refine lv_iload hx hb dL_areRoofs_460 (lv_at hl 0 rfl) ?_
            refine lv_aload_n hx hb dL_areRoofs_462 rfl (lv_at hl 1 rfl) ?_
            refine lv_aload_n hx hb dL_areRoofs_463 rfl (lv_at hl 1 rfl) ?_
            refine lv_iload hx hb dL_areRoofs_464 (lv_at hl 8 rfl) ?_
            refine lv_iconst (v := 1) hx hb dL_areRoofs_466 (by decide) ?_
            refine core_p (v := .int (σ.1.1 15 v)) (grV (n := 2) (As := [.int (nI v), .int 1]) (rest := [.ref o, .int (σ.1.1 18 v), .int (wishV σ.1 v 5)]) h0 hF (m_X9_wishOf_1 h0 (cm := cm) (o := o) (σ := σ) hO (nI v) v rfl (by omega)) wm_L_104 wo_X9_wishOf ws_X9__X9_wishOf wz_X9 wc_X9_wishOf ⟨by decide, by decide, by decide +kernel⟩ rfl ⟨Nat.le_of_ble_eq_true rfl, Nat.le_of_ble_eq_true rfl⟩ (ci := 8) (SBH.rec hB) rfl hB hS hAo ⟨by show 10 * (σ.1.2 1) + 0 ≤ 50; omega, by show 1300 * (σ.1.2 1) + 0 ≤ 6500; omega⟩ hl.1 rfl (Nat.le_of_ble_eq_true rfl) dL_areRoofs_467) ?_
            refine lv_iconst (v := 0) hx hb dL_areRoofs_470 (by decide) ?_
            refine core_p (v := .int (σ.1.1 0 (wS σ.1 v))) (grV (n := 2) (As := [.int (σ.1.1 15 v), .int 0]) (rest := [.int (σ.1.1 18 v), .int (wishV σ.1 v 5)]) h0 hF (m_X9_starOf_0 h0 (cm := cm) (o := o) (σ := σ) hO (σ.1.1 15 v) (wS σ.1 v) ((hO.2.2.2.2.2 v hv_l).1) (hO.2.2.2.2.2 v hv_l).2) wm_L_95 wo_X9_starOf ws_X9__X9_starOf wz_X9 wc_X9_starOf ⟨by decide, by decide, by decide +kernel⟩ rfl ⟨Nat.le_of_ble_eq_true rfl, Nat.le_of_ble_eq_true rfl⟩ (ci := 8) (SBH.rec hB) rfl hB hS hAo ⟨by show 10 * (σ.1.2 1) + 0 ≤ 50; omega, by show 1300 * (σ.1.2 1) + 0 ≤ 6500; omega⟩ hl.1 rfl (Nat.le_of_ble_eq_true rfl) dL_areRoofs_471) ?_
            refine lv_iadd hx hb dL_areRoofs_474 ?_
            refine lv_icmp_ne (tgt := 482) hx hb dL_areRoofs_475 (by decide) (fun c_475 => absurd (wish5_t c_419) c_475) (fun c_475 => ?_)
            refine lv_iconst (v := 1) hx hb dL_areRoofs_478 (by decide) ?_
            refine lv_goto (tgt := 483) hx hb dL_areRoofs_479 (by decide) ?_
            exact hJ_415 _ (rfl)
          · refine lv_aload_n hx hb dL_areRoofs_422 rfl (lv_at hl 1 rfl) ?_
            refine lv_iload hx hb dL_areRoofs_423 (lv_at hl 8 rfl) ?_
            refine lv_iconst (v := 5) hx hb dL_areRoofs_425 (by decide) ?_
            refine core_p (v := .int (wishV σ.1 v 5)) (grV (n := 2) (As := [.int (nI v), .int 5]) (rest := []) h0 hF (m_X9_wishOf_5 h0 (cm := cm) (o := o) (σ := σ) hO (nI v) v rfl (by omega)) wm_L_104 wo_X9_wishOf ws_X9__X9_wishOf wz_X9 wc_X9_wishOf ⟨by decide, by decide, by decide +kernel⟩ rfl ⟨Nat.le_of_ble_eq_true rfl, Nat.le_of_ble_eq_true rfl⟩ (ci := 8) (SBH.rec hB) rfl hB hS hAo ⟨by show 10 * (σ.1.2 1) + 0 ≤ 50; omega, by show 1300 * (σ.1.2 1) + 0 ≤ 6500; omega⟩ hl.1 rfl (Nat.le_of_ble_eq_true rfl) dL_areRoofs_426) ?_
            refine lv_bipush (v := (-4)) hx hb dL_areRoofs_429 (by decide) ?_
            refine lv_icmp_ne (tgt := 438) hx hb dL_areRoofs_431 (by decide) (fun c_431 => absurd (wish5_f c_419) c_431) (fun c_431 => ?_)
            refine lv_iconst (v := 1) hx hb dL_areRoofs_434 (by decide) ?_
            refine lv_goto (tgt := 483) hx hb dL_areRoofs_435 (by decide) ?_
            exact hJ_415 _ (rfl)
      exact key_391 (σ.1.2 2) 0 (by omega) ls (lv_sub hl [1, 2, 3, 4, 5, 6, 7, 0] rfl)
    | succ nf ih_18 =>
      intro r hr H locs hB hS ls hl
      have hr_l : r < σ.1.2 1 := by omega
      obtain ⟨hr1, ⟨wc, hwc, hc31⟩, ⟨wd, hwd, hd31⟩, ⟨ws, hws, hs31⟩, hr5, hr6, hr7⟩ := hR.1 r hr_l
      refine lv_iload hx hb dL_areRoofs_18 (lv_at hl 6 rfl) ?_
      refine lv_if_eq (tgt := 388) hx hb dL_areRoofs_20 (by decide) (fun c_20 => absurd c_20 (by decide)) (fun c_20 => ?_)
      refine lv_iload hx hb dL_areRoofs_23 (lv_at hl 7 rfl) ?_
      refine lv_aload_n hx hb dL_areRoofs_25 rfl (lv_at hl 0 rfl) ?_
      refine lv_iconst (v := 1) hx hb dL_areRoofs_26 (by decide) ?_
      refine core_p (v := .int (nI (σ.1.2 1))) (grV (n := 1) (As := [.int 1]) (rest := [.int (nI r)]) h0 hF (m_X9_account_1 h0 (cm := cm) (o := o) (σ := σ) hO) wm_L_89 wo_X9_account ws_X9__X9_account wz_X9 wc_X9_account ⟨by decide, by decide, by decide +kernel⟩ rfl ⟨Nat.le_of_ble_eq_true rfl, Nat.le_of_ble_eq_true rfl⟩ (ci := 8) (SBH.rec hB) rfl hB hS hAo ⟨by show 10 * r + 0 ≤ 50; omega, by show 1300 * r + 0 ≤ 6500; omega⟩ hl.1 rfl (Nat.le_of_ble_eq_true rfl) dL_areRoofs_27) ?_
      refine lv_icmp_ge (tgt := 388) hx hb dL_areRoofs_30 (by decide) (fun c_30 => absurd c_30 (nI_ge (a := r) (b := σ.1.2 1) (by omega) (by omega))) (fun c_30 => ?_)
      have n_30 := Int32.not_le.mp c_30
      refine lv_iconst (v := 0) hx hb dL_areRoofs_33 (by decide) ?_
      refine lv_istore (lv' := [(8, .int 0), (0, .ref o), (1, .int (nI (suN (fun y => cN (ownB σ.1 y) (σ.1.2 2)) r))), (2, .int (nI (suN (fun y => cN (heldB σ.1 y) (σ.1.2 2)) r))), (3, .int (sI (σ.1.1 10) r)), (4, .int (sI (σ.1.1 11) r)), (5, .int (nI (suN (fun y => cN (fun z => decide (σ.1.1 2 z = nI y)) (σ.1.2 0)) r))), (6, .int 1), (7, .int (nI r))]) hx hb dL_areRoofs_34 hl (by decide) rfl (fun ls hl => ?_)
      refine lv_iconst (v := 0) hx hb dL_areRoofs_36 (by decide) ?_
      refine lv_istore (lv' := [(9, .int 0), (8, .int 0), (0, .ref o), (1, .int (nI (suN (fun y => cN (ownB σ.1 y) (σ.1.2 2)) r))), (2, .int (nI (suN (fun y => cN (heldB σ.1 y) (σ.1.2 2)) r))), (3, .int (sI (σ.1.1 10) r)), (4, .int (sI (σ.1.1 11) r)), (5, .int (nI (suN (fun y => cN (fun z => decide (σ.1.1 2 z = nI y)) (σ.1.2 0)) r))), (6, .int 1), (7, .int (nI r))]) hx hb dL_areRoofs_37 hl (by decide) rfl (fun ls hl => ?_)
      refine lv_iconst (v := 0) hx hb dL_areRoofs_39 (by decide) ?_
      refine lv_istore (lv' := [(10, .int 0), (9, .int 0), (8, .int 0), (0, .ref o), (1, .int (nI (suN (fun y => cN (ownB σ.1 y) (σ.1.2 2)) r))), (2, .int (nI (suN (fun y => cN (heldB σ.1 y) (σ.1.2 2)) r))), (3, .int (sI (σ.1.1 10) r)), (4, .int (sI (σ.1.1 11) r)), (5, .int (nI (suN (fun y => cN (fun z => decide (σ.1.1 2 z = nI y)) (σ.1.2 0)) r))), (6, .int 1), (7, .int (nI r))]) hx hb dL_areRoofs_40 hl (by decide) rfl (fun ls hl => ?_)
      refine lv_iconst (v := 0) hx hb dL_areRoofs_42 (by decide) ?_
      refine lv_istore (lv' := [(11, .int 0), (10, .int 0), (9, .int 0), (8, .int 0), (0, .ref o), (1, .int (nI (suN (fun y => cN (ownB σ.1 y) (σ.1.2 2)) r))), (2, .int (nI (suN (fun y => cN (heldB σ.1 y) (σ.1.2 2)) r))), (3, .int (sI (σ.1.1 10) r)), (4, .int (sI (σ.1.1 11) r)), (5, .int (nI (suN (fun y => cN (fun z => decide (σ.1.1 2 z = nI y)) (σ.1.2 0)) r))), (6, .int 1), (7, .int (nI r))]) hx hb dL_areRoofs_43 hl (by decide) rfl (fun ls hl => ?_)
      refine lv_iconst (v := 0) hx hb dL_areRoofs_45 (by decide) ?_
      refine lv_istore (lv' := [(12, .int 0), (11, .int 0), (10, .int 0), (9, .int 0), (8, .int 0), (0, .ref o), (1, .int (nI (suN (fun y => cN (ownB σ.1 y) (σ.1.2 2)) r))), (2, .int (nI (suN (fun y => cN (heldB σ.1 y) (σ.1.2 2)) r))), (3, .int (sI (σ.1.1 10) r)), (4, .int (sI (σ.1.1 11) r)), (5, .int (nI (suN (fun y => cN (fun z => decide (σ.1.1 2 z = nI y)) (σ.1.2 0)) r))), (6, .int 1), (7, .int (nI r))]) hx hb dL_areRoofs_46 hl (by decide) rfl (fun ls hl => ?_)
      have key_48 : ∀ (nf q : Nat), q + nf = σ.1.2 2 → ∀ (x11 : Int32), ∀ (ls : Array Slot), lv_has ls 15 [(0, .ref o), (1, .int (nI (suN (fun y => cN (ownB σ.1 y) (σ.1.2 2)) r))), (2, .int (nI (suN (fun y => cN (heldB σ.1 y) (σ.1.2 2)) r))), (3, .int (sI (σ.1.1 10) r)), (4, .int (sI (σ.1.1 11) r)), (5, .int (nI (suN (fun y => cN (fun z => decide (σ.1.1 2 z = nI y)) (σ.1.2 0)) r))), (6, .int 1), (7, .int (nI r)), (8, .int (nI (cN (ownB σ.1 r) q))), (9, .int (nI (cN (heldB σ.1 r) q))), (10, .int (heS σ.1 r q)), (11, .int x11), (12, .int (nI q))] → W p l e ({ frames := 8, cells := 50, slots := 6500, locals := 191 } : Room) s m ([.ref o] : List Value).toArray below meth c H locs (10 * r) (1300 * r) (MQ below (qM (fun v H => v = some (.int 1) ∧ SBH X cm o σ H) (gA X)) ([.ref o] : List Value).toArray s 50 6500 (gA X)) (F0 m 48 ls []) := by
        intro nf
        induction nf with
        | zero =>
          intro q hq x11 ls hl
          have hq_e : q = σ.1.2 2 := by omega
          subst hq_e
          refine lv_iload hx hb dL_areRoofs_48 (lv_at hl 12 rfl) ?_
          refine lv_aload_n hx hb dL_areRoofs_50 rfl (lv_at hl 0 rfl) ?_
          refine lv_iconst (v := 2) hx hb dL_areRoofs_51 (by decide) ?_
          refine core_p (v := .int (nI (σ.1.2 2))) (grV (n := 1) (As := [.int 2]) (rest := [.int (nI (σ.1.2 2))]) h0 hF (m_X9_account_2 h0 (cm := cm) (o := o) (σ := σ) hO) wm_L_89 wo_X9_account ws_X9__X9_account wz_X9 wc_X9_account ⟨by decide, by decide, by decide +kernel⟩ rfl ⟨Nat.le_of_ble_eq_true rfl, Nat.le_of_ble_eq_true rfl⟩ (ci := 8) (SBH.rec hB) rfl hB hS hAo ⟨by show 10 * r + 0 ≤ 50; omega, by show 1300 * r + 0 ≤ 6500; omega⟩ hl.1 rfl (Nat.le_of_ble_eq_true rfl) dL_areRoofs_52) ?_
          refine lv_icmp_ge (tgt := 182) hx hb dL_areRoofs_55 (by decide) (fun c_55 => ?_) (fun c_55 => absurd (nI_le (a := σ.1.2 2) (b := σ.1.2 2) (by omega) (by omega)) c_55)
          have n_55 := Int32.not_lt.mpr c_55
          refine lv_iload_n hx hb dL_areRoofs_182 rfl (lv_at hl 1 rfl) ?_
          refine lv_iload hx hb dL_areRoofs_183 (lv_at hl 8 rfl) ?_
          refine lv_iadd hx hb dL_areRoofs_185 ?_
          refine lv_istore_n (lv' := [(1, .int ((nI (suN (fun y => cN (ownB σ.1 y) (σ.1.2 2)) r)) + (nI (cN (ownB σ.1 r) (σ.1.2 2))))), (0, .ref o), (2, .int (nI (suN (fun y => cN (heldB σ.1 y) (σ.1.2 2)) r))), (3, .int (sI (σ.1.1 10) r)), (4, .int (sI (σ.1.1 11) r)), (5, .int (nI (suN (fun y => cN (fun z => decide (σ.1.1 2 z = nI y)) (σ.1.2 0)) r))), (6, .int 1), (7, .int (nI r)), (8, .int (nI (cN (ownB σ.1 r) (σ.1.2 2)))), (9, .int (nI (cN (heldB σ.1 r) (σ.1.2 2)))), (10, .int (heS σ.1 r (σ.1.2 2))), (11, .int x11), (12, .int (nI (σ.1.2 2)))]) hx hb dL_areRoofs_186 rfl hl (by decide) rfl (fun ls hl => ?_)
          refine lv_iload_n hx hb dL_areRoofs_187 rfl (lv_at hl 2 rfl) ?_
          refine lv_iload hx hb dL_areRoofs_188 (lv_at hl 9 rfl) ?_
          refine lv_iadd hx hb dL_areRoofs_190 ?_
          refine lv_istore_n (lv' := [(2, .int ((nI (suN (fun y => cN (heldB σ.1 y) (σ.1.2 2)) r)) + (nI (cN (heldB σ.1 r) (σ.1.2 2))))), (1, .int ((nI (suN (fun y => cN (ownB σ.1 y) (σ.1.2 2)) r)) + (nI (cN (ownB σ.1 r) (σ.1.2 2))))), (0, .ref o), (3, .int (sI (σ.1.1 10) r)), (4, .int (sI (σ.1.1 11) r)), (5, .int (nI (suN (fun y => cN (fun z => decide (σ.1.1 2 z = nI y)) (σ.1.2 0)) r))), (6, .int 1), (7, .int (nI r)), (8, .int (nI (cN (ownB σ.1 r) (σ.1.2 2)))), (9, .int (nI (cN (heldB σ.1 r) (σ.1.2 2)))), (10, .int (heS σ.1 r (σ.1.2 2))), (11, .int x11), (12, .int (nI (σ.1.2 2)))]) hx hb dL_areRoofs_191 rfl hl (by decide) rfl (fun ls hl => ?_)
          refine lv_iload_n hx hb dL_areRoofs_192 rfl (lv_at hl 3 rfl) ?_
          refine lv_aload_n hx hb dL_areRoofs_193 rfl (lv_at hl 2 rfl) ?_
          refine lv_iload hx hb dL_areRoofs_194 (lv_at hl 7 rfl) ?_
          refine lv_iconst (v := 4) hx hb dL_areRoofs_196 (by decide) ?_
          refine core_p (v := .int (σ.1.1 10 r)) (grV (n := 2) (As := [.int (nI r), .int 4]) (rest := [.int (sI (σ.1.1 10) r)]) h0 hF (m_X9_roofOf_4 h0 (cm := cm) (o := o) (σ := σ) hO (nI r) r rfl (by omega)) wm_L_98 wo_X9_roofOf ws_X9__X9_roofOf wz_X9 wc_X9_roofOf ⟨by decide, by decide, by decide +kernel⟩ rfl ⟨Nat.le_of_ble_eq_true rfl, Nat.le_of_ble_eq_true rfl⟩ (ci := 8) (SBH.rec hB) rfl hB hS hAo ⟨by show 10 * r + 0 ≤ 50; omega, by show 1300 * r + 0 ≤ 6500; omega⟩ hl.1 rfl (Nat.le_of_ble_eq_true rfl) dL_areRoofs_197) ?_
          refine lv_iadd hx hb dL_areRoofs_200 ?_
          refine lv_istore_n (lv' := [(3, .int ((sI (σ.1.1 10) r) + (σ.1.1 10 r))), (2, .int ((nI (suN (fun y => cN (heldB σ.1 y) (σ.1.2 2)) r)) + (nI (cN (heldB σ.1 r) (σ.1.2 2))))), (1, .int ((nI (suN (fun y => cN (ownB σ.1 y) (σ.1.2 2)) r)) + (nI (cN (ownB σ.1 r) (σ.1.2 2))))), (0, .ref o), (4, .int (sI (σ.1.1 11) r)), (5, .int (nI (suN (fun y => cN (fun z => decide (σ.1.1 2 z = nI y)) (σ.1.2 0)) r))), (6, .int 1), (7, .int (nI r)), (8, .int (nI (cN (ownB σ.1 r) (σ.1.2 2)))), (9, .int (nI (cN (heldB σ.1 r) (σ.1.2 2)))), (10, .int (heS σ.1 r (σ.1.2 2))), (11, .int x11), (12, .int (nI (σ.1.2 2)))]) hx hb dL_areRoofs_201 rfl hl (by decide) rfl (fun ls hl => ?_)
          refine lv_iload hx hb dL_areRoofs_202 (lv_at hl 4 rfl) ?_
          refine lv_aload_n hx hb dL_areRoofs_204 rfl (lv_at hl 3 rfl) ?_
          refine lv_iload hx hb dL_areRoofs_205 (lv_at hl 7 rfl) ?_
          refine lv_iconst (v := 5) hx hb dL_areRoofs_207 (by decide) ?_
          refine core_p (v := .int (σ.1.1 11 r)) (grV (n := 2) (As := [.int (nI r), .int 5]) (rest := [.int (sI (σ.1.1 11) r)]) h0 hF (m_X9_roofOf_5 h0 (cm := cm) (o := o) (σ := σ) hO (nI r) r rfl (by omega)) wm_L_98 wo_X9_roofOf ws_X9__X9_roofOf wz_X9 wc_X9_roofOf ⟨by decide, by decide, by decide +kernel⟩ rfl ⟨Nat.le_of_ble_eq_true rfl, Nat.le_of_ble_eq_true rfl⟩ (ci := 8) (SBH.rec hB) rfl hB hS hAo ⟨by show 10 * r + 0 ≤ 50; omega, by show 1300 * r + 0 ≤ 6500; omega⟩ hl.1 rfl (Nat.le_of_ble_eq_true rfl) dL_areRoofs_208) ?_
          refine lv_iadd hx hb dL_areRoofs_211 ?_
          refine lv_istore (lv' := [(4, .int ((sI (σ.1.1 11) r) + (σ.1.1 11 r))), (3, .int ((sI (σ.1.1 10) r) + (σ.1.1 10 r))), (2, .int ((nI (suN (fun y => cN (heldB σ.1 y) (σ.1.2 2)) r)) + (nI (cN (heldB σ.1 r) (σ.1.2 2))))), (1, .int ((nI (suN (fun y => cN (ownB σ.1 y) (σ.1.2 2)) r)) + (nI (cN (ownB σ.1 r) (σ.1.2 2))))), (0, .ref o), (5, .int (nI (suN (fun y => cN (fun z => decide (σ.1.1 2 z = nI y)) (σ.1.2 0)) r))), (6, .int 1), (7, .int (nI r)), (8, .int (nI (cN (ownB σ.1 r) (σ.1.2 2)))), (9, .int (nI (cN (heldB σ.1 r) (σ.1.2 2)))), (10, .int (heS σ.1 r (σ.1.2 2))), (11, .int x11), (12, .int (nI (σ.1.2 2)))]) hx hb dL_areRoofs_212 hl (by decide) rfl (fun ls hl => ?_)
          refine lv_iload hx hb dL_areRoofs_214 (lv_at hl 5 rfl) ?_
          refine lv_aload_n hx hb dL_areRoofs_216 rfl (lv_at hl 4 rfl) ?_
          refine lv_iload hx hb dL_areRoofs_217 (lv_at hl 7 rfl) ?_
          refine lv_bipush (v := 6) hx hb dL_areRoofs_219 (by decide) ?_
          refine core_p (v := .int (roofV σ.1 r 6)) (grV (n := 2) (As := [.int (nI r), .int 6]) (rest := [.int (nI (suN (fun y => cN (fun z => decide (σ.1.1 2 z = nI y)) (σ.1.2 0)) r))]) h0 hF (m_X9_roofOf_6 h0 (cm := cm) (o := o) (σ := σ) hO (nI r) r rfl (by omega)) wm_L_98 wo_X9_roofOf ws_X9__X9_roofOf wz_X9 wc_X9_roofOf ⟨by decide, by decide, by decide +kernel⟩ rfl ⟨Nat.le_of_ble_eq_true rfl, Nat.le_of_ble_eq_true rfl⟩ (ci := 8) (SBH.rec hB) rfl hB hS hAo ⟨by show 10 * r + 0 ≤ 50; omega, by show 1300 * r + 0 ≤ 6500; omega⟩ hl.1 rfl (Nat.le_of_ble_eq_true rfl) dL_areRoofs_221) ?_
          refine lv_iadd hx hb dL_areRoofs_224 ?_
          refine lv_istore (lv' := [(5, .int ((nI (suN (fun y => cN (fun z => decide (σ.1.1 2 z = nI y)) (σ.1.2 0)) r)) + (roofV σ.1 r 6))), (4, .int ((sI (σ.1.1 11) r) + (σ.1.1 11 r))), (3, .int ((sI (σ.1.1 10) r) + (σ.1.1 10 r))), (2, .int ((nI (suN (fun y => cN (heldB σ.1 y) (σ.1.2 2)) r)) + (nI (cN (heldB σ.1 r) (σ.1.2 2))))), (1, .int ((nI (suN (fun y => cN (ownB σ.1 y) (σ.1.2 2)) r)) + (nI (cN (ownB σ.1 r) (σ.1.2 2))))), (0, .ref o), (6, .int 1), (7, .int (nI r)), (8, .int (nI (cN (ownB σ.1 r) (σ.1.2 2)))), (9, .int (nI (cN (heldB σ.1 r) (σ.1.2 2)))), (10, .int (heS σ.1 r (σ.1.2 2))), (11, .int x11), (12, .int (nI (σ.1.2 2)))]) hx hb dL_areRoofs_225 hl (by decide) rfl (fun ls hl => ?_)
          refine lv_aload_n hx hb dL_areRoofs_227 rfl (lv_at hl 5 rfl) ?_
          refine lv_iload hx hb dL_areRoofs_228 (lv_at hl 7 rfl) ?_
          refine core_p (v := .int (couN σ.1 r)) (grV (n := 1) (As := [.int (nI r)]) (rest := []) h0 hF (m_X9_could h0 (cm := cm) (o := o) (σ := σ) hO (nI r) r rfl (by omega)) wm_L_136 wo_X9_could ws_X9__X9_could wz_X9 wc_X9_could ⟨by decide, by decide, by decide +kernel⟩ rfl ⟨Nat.le_of_ble_eq_true rfl, Nat.le_of_ble_eq_true rfl⟩ (ci := 8) (SBH.rec hB) rfl hB hS hAo ⟨by show 10 * r + 0 ≤ 50; omega, by show 1300 * r + 0 ≤ 6500; omega⟩ hl.1 rfl (Nat.le_of_ble_eq_true rfl) dL_areRoofs_230) ?_
          refine lv_istore (lv' := [(12, .int (couN σ.1 r)), (5, .int ((nI (suN (fun y => cN (fun z => decide (σ.1.1 2 z = nI y)) (σ.1.2 0)) r)) + (roofV σ.1 r 6))), (4, .int ((sI (σ.1.1 11) r) + (σ.1.1 11 r))), (3, .int ((sI (σ.1.1 10) r) + (σ.1.1 10 r))), (2, .int ((nI (suN (fun y => cN (heldB σ.1 y) (σ.1.2 2)) r)) + (nI (cN (heldB σ.1 r) (σ.1.2 2))))), (1, .int ((nI (suN (fun y => cN (ownB σ.1 y) (σ.1.2 2)) r)) + (nI (cN (ownB σ.1 r) (σ.1.2 2))))), (0, .ref o), (6, .int 1), (7, .int (nI r)), (8, .int (nI (cN (ownB σ.1 r) (σ.1.2 2)))), (9, .int (nI (cN (heldB σ.1 r) (σ.1.2 2)))), (10, .int (heS σ.1 r (σ.1.2 2))), (11, .int x11)]) hx hb dL_areRoofs_233 hl (by decide) rfl (fun ls hl => ?_)
          refine lv_aload_n hx hb dL_areRoofs_235 rfl (lv_at hl 6 rfl) ?_
          refine lv_iload hx hb dL_areRoofs_236 (lv_at hl 8 rfl) ?_
          refine lv_iconst (v := 2) hx hb dL_areRoofs_238 (by decide) ?_
          refine core_p (v := .int (roofV σ.1 r 2)) (grV (n := 2) (As := [.int (nI r), .int 2]) (rest := []) h0 hF (m_X9_roofOf_2 h0 (cm := cm) (o := o) (σ := σ) hO (nI r) r rfl (by omega)) wm_L_98 wo_X9_roofOf ws_X9__X9_roofOf wz_X9 wc_X9_roofOf ⟨by decide, by decide, by decide +kernel⟩ rfl ⟨Nat.le_of_ble_eq_true rfl, Nat.le_of_ble_eq_true rfl⟩ (ci := 8) (SBH.rec hB) rfl hB hS hAo ⟨by show 10 * r + 0 ≤ 50; omega, by show 1300 * r + 0 ≤ 6500; omega⟩ hl.1 rfl (Nat.le_of_ble_eq_true rfl) dL_areRoofs_239) ?_
          refine lv_iload hx hb dL_areRoofs_242 (lv_at hl 9 rfl) ?_
          refine lv_icmp_ne (tgt := 379) hx hb dL_areRoofs_244 (by decide) (fun c_244 => absurd rfl c_244) (fun c_244 => ?_)
          refine lv_aload_n hx hb dL_areRoofs_247 rfl (lv_at hl 6 rfl) ?_
          refine lv_iload hx hb dL_areRoofs_248 (lv_at hl 8 rfl) ?_
          refine lv_iconst (v := 3) hx hb dL_areRoofs_250 (by decide) ?_
          refine core_p (v := .int (roofV σ.1 r 3)) (grV (n := 2) (As := [.int (nI r), .int 3]) (rest := []) h0 hF (m_X9_roofOf_3 h0 (cm := cm) (o := o) (σ := σ) hO (nI r) r rfl (by omega)) wm_L_98 wo_X9_roofOf ws_X9__X9_roofOf wz_X9 wc_X9_roofOf ⟨by decide, by decide, by decide +kernel⟩ rfl ⟨Nat.le_of_ble_eq_true rfl, Nat.le_of_ble_eq_true rfl⟩ (ci := 8) (SBH.rec hB) rfl hB hS hAo ⟨by show 10 * r + 0 ≤ 50; omega, by show 1300 * r + 0 ≤ 6500; omega⟩ hl.1 rfl (Nat.le_of_ble_eq_true rfl) dL_areRoofs_251) ?_
          refine lv_iload hx hb dL_areRoofs_254 (lv_at hl 10 rfl) ?_
          refine lv_icmp_ne (tgt := 379) hx hb dL_areRoofs_256 (by decide) (fun c_256 => absurd hr1 c_256) (fun c_256 => ?_)
          refine lv_aload_n hx hb dL_areRoofs_259 rfl (lv_at hl 6 rfl) ?_
          refine lv_iload hx hb dL_areRoofs_260 (lv_at hl 8 rfl) ?_
          refine core_p (v := .int (σ.1.1 6 r)) (grV (n := 1) (As := [.int (nI r)]) (rest := []) h0 hF (m_X9_debt h0 (cm := cm) (o := o) (σ := σ) hO (nI r) r rfl (by omega)) wm_L_101 wo_X9_debt ws_X9__X9_debt wz_X9 wc_X9_debt ⟨by decide, by decide, by decide +kernel⟩ rfl ⟨Nat.le_of_ble_eq_true rfl, Nat.le_of_ble_eq_true rfl⟩ (ci := 8) (SBH.rec hB) rfl hB hS hAo ⟨by show 10 * r + 0 ≤ 50; omega, by show 1300 * r + 0 ≤ 6500; omega⟩ hl.1 rfl (Nat.le_of_ble_eq_true rfl) dL_areRoofs_262) ?_
          refine lv_aload_n hx hb dL_areRoofs_265 rfl (lv_at hl 6 rfl) ?_
          refine lv_iload hx hb dL_areRoofs_266 (lv_at hl 8 rfl) ?_
          refine core_p (v := .int (σ.1.1 8 r - σ.1.1 9 r)) (grV (n := 1) (As := [.int (nI r)]) (rest := [.int (σ.1.1 6 r)]) h0 hF (m_X9_debtAgain h0 (cm := cm) (o := o) (σ := σ) hO (nI r) r rfl (by omega)) wm_L_139 wo_X9_debtAgain ws_X9__X9_debtAgain wz_X9 wc_X9_debtAgain ⟨by decide, by decide, by decide +kernel⟩ rfl ⟨Nat.le_of_ble_eq_true rfl, Nat.le_of_ble_eq_true rfl⟩ (ci := 8) (SBH.rec hB) rfl hB hS hAo ⟨by show 10 * r + 0 ≤ 50; omega, by show 1300 * r + 0 ≤ 6500; omega⟩ hl.1 rfl (Nat.le_of_ble_eq_true rfl) dL_areRoofs_268) ?_
          refine lv_icmp_ne (tgt := 379) hx hb dL_areRoofs_271 (by decide) (fun c_271 => absurd (hW.1 r hr_l).1 c_271) (fun c_271 => ?_)
          refine lv_aload_n hx hb dL_areRoofs_274 rfl (lv_at hl 6 rfl) ?_
          refine lv_iload hx hb dL_areRoofs_275 (lv_at hl 8 rfl) ?_
          refine core_p (v := .int (σ.1.1 6 r)) (grV (n := 1) (As := [.int (nI r)]) (rest := []) h0 hF (m_X9_debt h0 (cm := cm) (o := o) (σ := σ) hO (nI r) r rfl (by omega)) wm_L_101 wo_X9_debt ws_X9__X9_debt wz_X9 wc_X9_debt ⟨by decide, by decide, by decide +kernel⟩ rfl ⟨Nat.le_of_ble_eq_true rfl, Nat.le_of_ble_eq_true rfl⟩ (ci := 8) (SBH.rec hB) rfl hB hS hAo ⟨by show 10 * r + 0 ≤ 50; omega, by show 1300 * r + 0 ≤ 6500; omega⟩ hl.1 rfl (Nat.le_of_ble_eq_true rfl) dL_areRoofs_277) ?_
          refine lv_if_lt (tgt := 379) hx hb dL_areRoofs_280 (by decide) (fun c_280 => absurd c_280 (by rw [hwd]; exact nI_pos hd31)) (fun c_280 => ?_)
          have n_280 := Int32.not_lt.mp c_280
          refine lv_aload_n hx hb dL_areRoofs_283 rfl (lv_at hl 6 rfl) ?_
          refine lv_iload hx hb dL_areRoofs_284 (lv_at hl 8 rfl) ?_
          refine lv_iconst (v := 0) hx hb dL_areRoofs_286 (by decide) ?_
          refine core_p (v := .int (σ.1.1 5 r)) (grV (n := 2) (As := [.int (nI r), .int 0]) (rest := []) h0 hF (m_X9_roofOf_0 h0 (cm := cm) (o := o) (σ := σ) hO (nI r) r rfl (by omega)) wm_L_98 wo_X9_roofOf ws_X9__X9_roofOf wz_X9 wc_X9_roofOf ⟨by decide, by decide, by decide +kernel⟩ rfl ⟨Nat.le_of_ble_eq_true rfl, Nat.le_of_ble_eq_true rfl⟩ (ci := 8) (SBH.rec hB) rfl hB hS hAo ⟨by show 10 * r + 0 ≤ 50; omega, by show 1300 * r + 0 ≤ 6500; omega⟩ hl.1 rfl (Nat.le_of_ble_eq_true rfl) dL_areRoofs_287) ?_
          refine lv_if_lt (tgt := 379) hx hb dL_areRoofs_290 (by decide) (fun c_290 => absurd c_290 (by rw [hwc]; exact nI_pos hc31)) (fun c_290 => ?_)
          have n_290 := Int32.not_lt.mp c_290
          refine lv_aload_n hx hb dL_areRoofs_293 rfl (lv_at hl 6 rfl) ?_
          refine lv_iload hx hb dL_areRoofs_294 (lv_at hl 8 rfl) ?_
          refine lv_bipush (v := 8) hx hb dL_areRoofs_296 (by decide) ?_
          refine core_p (v := .int (σ.1.1 13 r)) (grV (n := 2) (As := [.int (nI r), .int 8]) (rest := []) h0 hF (m_X9_roofOf_8 h0 (cm := cm) (o := o) (σ := σ) hO (nI r) r rfl (by omega)) wm_L_98 wo_X9_roofOf ws_X9__X9_roofOf wz_X9 wc_X9_roofOf ⟨by decide, by decide, by decide +kernel⟩ rfl ⟨Nat.le_of_ble_eq_true rfl, Nat.le_of_ble_eq_true rfl⟩ (ci := 8) (SBH.rec hB) rfl hB hS hAo ⟨by show 10 * r + 0 ≤ 50; omega, by show 1300 * r + 0 ≤ 6500; omega⟩ hl.1 rfl (Nat.le_of_ble_eq_true rfl) dL_areRoofs_298) ?_
          refine lv_aload_n hx hb dL_areRoofs_301 rfl (lv_at hl 6 rfl) ?_
          refine lv_iload hx hb dL_areRoofs_302 (lv_at hl 8 rfl) ?_
          refine lv_bipush (v := 7) hx hb dL_areRoofs_304 (by decide) ?_
          refine core_p (v := .int (σ.1.1 12 r)) (grV (n := 2) (As := [.int (nI r), .int 7]) (rest := [.int (σ.1.1 13 r)]) h0 hF (m_X9_roofOf_7 h0 (cm := cm) (o := o) (σ := σ) hO (nI r) r rfl (by omega)) wm_L_98 wo_X9_roofOf ws_X9__X9_roofOf wz_X9 wc_X9_roofOf ⟨by decide, by decide, by decide +kernel⟩ rfl ⟨Nat.le_of_ble_eq_true rfl, Nat.le_of_ble_eq_true rfl⟩ (ci := 8) (SBH.rec hB) rfl hB hS hAo ⟨by show 10 * r + 0 ≤ 50; omega, by show 1300 * r + 0 ≤ 6500; omega⟩ hl.1 rfl (Nat.le_of_ble_eq_true rfl) dL_areRoofs_306) ?_
          refine lv_iconst (v := (-1)) hx hb dL_areRoofs_309 (by decide) ?_
          refine lv_ixor hx hb dL_areRoofs_310 ?_
          refine lv_iand hx hb dL_areRoofs_311 ?_
          refine lv_if_ne (tgt := 379) hx hb dL_areRoofs_312 (by decide) (fun c_312 => absurd hr5 c_312) (fun c_312 => ?_)
          refine lv_iload hx hb dL_areRoofs_315 (lv_at hl 0 rfl) ?_
          refine lv_aload_n hx hb dL_areRoofs_317 rfl (lv_at hl 6 rfl) ?_
          refine lv_iload hx hb dL_areRoofs_318 (lv_at hl 8 rfl) ?_
          refine core_p (v := .int (couA σ.1 r)) (grV (n := 1) (As := [.int (nI r)]) (rest := [.int (couN σ.1 r)]) h0 hF (m_X9_couldAgain h0 (cm := cm) (o := o) (σ := σ) hO (nI r) r rfl (by omega)) wm_L_142 wo_X9_couldAgain ws_X9__X9_couldAgain wz_X9 wc_X9_couldAgain ⟨by decide, by decide, by decide +kernel⟩ rfl ⟨Nat.le_of_ble_eq_true rfl, Nat.le_of_ble_eq_true rfl⟩ (ci := 8) (SBH.rec hB) rfl hB hS hAo ⟨by show 10 * r + 0 ≤ 50; omega, by show 1300 * r + 0 ≤ 6500; omega⟩ hl.1 rfl (Nat.le_of_ble_eq_true rfl) dL_areRoofs_320) ?_
          refine lv_icmp_ne (tgt := 379) hx hb dL_areRoofs_323 (by decide) (fun c_323 => absurd (hW.1 r hr_l).2 c_323) (fun c_323 => ?_)
          refine lv_iload hx hb dL_areRoofs_326 (lv_at hl 0 rfl) ?_
          refine lv_iload hx hb dL_areRoofs_328 (lv_at hl 10 rfl) ?_
          refine lv_icmp_gt (tgt := 379) hx hb dL_areRoofs_330 (by decide) (fun c_330 => absurd c_330 (Int32.not_lt.mpr hr6)) (fun c_330 => ?_)
          have n_330 := Int32.not_lt.mp c_330
          have hJ_333 : ∀ v9 : Int32, v9 = bI (decide (couN σ.1 r = nI (cN (heldB σ.1 r) (σ.1.2 2)))) → W p l e ({ frames := 8, cells := 50, slots := 6500, locals := 191 } : Room) s m ([.ref o] : List Value).toArray below meth c H locs (10 * r) (1300 * r) (MQ below (qM (fun v H => v = some (.int 1) ∧ SBH X cm o σ H) (gA X)) ([.ref o] : List Value).toArray s 50 6500 (gA X)) (F0 m 345 ls (.int v9 :: [])) := by
            intro v9 hv9
            subst hv9
            have hJ_345 : ∀ v9 : Int32, v9 = bI (decide (heS σ.1 r (σ.1.2 2) ≤ σ.1.1 5 r)) → W p l e ({ frames := 8, cells := 50, slots := 6500, locals := 191 } : Room) s m ([.ref o] : List Value).toArray below meth c H locs (10 * r) (1300 * r) (MQ below (qM (fun v H => v = some (.int 1) ∧ SBH X cm o σ H) (gA X)) ([.ref o] : List Value).toArray s 50 6500 (gA X)) (F0 m 362 ls (.int v9 :: [.int (bI (decide (couN σ.1 r = nI (cN (heldB σ.1 r) (σ.1.2 2)))))])) := by
              intro v9 hv9
              subst hv9
              refine lv_icmp_ne (tgt := 379) hx hb dL_areRoofs_362 (by decide) (fun c_362 => absurd (by rw [decide_eq_decide.mpr hr7]) c_362) (fun c_362 => ?_)
              refine lv_aload_n hx hb dL_areRoofs_365 rfl (lv_at hl 6 rfl) ?_
              refine lv_iload hx hb dL_areRoofs_366 (lv_at hl 8 rfl) ?_
              refine core_m (A1 := gA X) (grV (Bh := (SBH X cm o σ)) (n := 1) (As := [.int (nI r)]) (rest := []) h0 hF (m_X9_write h0 (cm := cm) (o := o) (σ := σ) hO (r := r) (by omega) hwc hwd hws hc31 hd31 hs31) wm_L_145 wo_X9_write ws_X9__X9_write wz_X9 wc_X9_write ⟨by decide, by decide, by decide +kernel⟩ rfl ⟨Nat.le_of_ble_eq_true rfl, Nat.le_of_ble_eq_true rfl⟩ (ci := 8) (SBH.rec hB) rfl hB hS hAo ⟨by show 10 * r + 10 ≤ 50; omega, by show 1300 * r + 1300 ≤ 6500; omega⟩ hl.1 rfl (Nat.le_of_ble_eq_true rfl) dL_areRoofs_368) hS (fun q h8 => h8) (fun v' H locs hq' hz1 hk1 hS => ?_)
              obtain ⟨L9, rfl, hL3, hL9, hB⟩ := hq'
              refine lv_iconst (v := 3) hx hb dL_areRoofs_371 (by decide) ?_
              refine lv_icmp_lt (tgt := 379) hx hb dL_areRoofs_372 (by decide) (fun c_372 => absurd c_372 (nI_nlt (a := L9) (b := 3) hL3 (by omega))) (fun c_372 => ?_)
              have n_372 := Int32.not_lt.mp c_372
              refine lv_iconst (v := 1) hx hb dL_areRoofs_375 (by decide) ?_
              refine lv_goto (tgt := 380) hx hb dL_areRoofs_376 (by decide) ?_
              refine lv_istore (lv' := [(6, .int 1), (12, .int (couN σ.1 r)), (5, .int ((nI (suN (fun y => cN (fun z => decide (σ.1.1 2 z = nI y)) (σ.1.2 0)) r)) + (roofV σ.1 r 6))), (4, .int ((sI (σ.1.1 11) r) + (σ.1.1 11 r))), (3, .int ((sI (σ.1.1 10) r) + (σ.1.1 10 r))), (2, .int ((nI (suN (fun y => cN (heldB σ.1 y) (σ.1.2 2)) r)) + (nI (cN (heldB σ.1 r) (σ.1.2 2))))), (1, .int ((nI (suN (fun y => cN (ownB σ.1 y) (σ.1.2 2)) r)) + (nI (cN (ownB σ.1 r) (σ.1.2 2))))), (0, .ref o), (7, .int (nI r)), (8, .int (nI (cN (ownB σ.1 r) (σ.1.2 2)))), (9, .int (nI (cN (heldB σ.1 r) (σ.1.2 2)))), (10, .int (heS σ.1 r (σ.1.2 2))), (11, .int x11)]) hx hb dL_areRoofs_380 hl (by decide) rfl (fun ls hl => ?_)
              refine lv_iinc (v := nI (r + 1)) (lv' := [(7, .int (nI (r + 1))), (6, .int 1), (12, .int (couN σ.1 r)), (5, .int ((nI (suN (fun y => cN (fun z => decide (σ.1.1 2 z = nI y)) (σ.1.2 0)) r)) + (roofV σ.1 r 6))), (4, .int ((sI (σ.1.1 11) r) + (σ.1.1 11 r))), (3, .int ((sI (σ.1.1 10) r) + (σ.1.1 10 r))), (2, .int ((nI (suN (fun y => cN (heldB σ.1 y) (σ.1.2 2)) r)) + (nI (cN (heldB σ.1 r) (σ.1.2 2))))), (1, .int ((nI (suN (fun y => cN (ownB σ.1 y) (σ.1.2 2)) r)) + (nI (cN (ownB σ.1 r) (σ.1.2 2))))), (0, .ref o), (8, .int (nI (cN (ownB σ.1 r) (σ.1.2 2)))), (9, .int (nI (cN (heldB σ.1 r) (σ.1.2 2)))), (10, .int (heS σ.1 r (σ.1.2 2))), (11, .int x11)]) hx hb dL_areRoofs_382 hl (k := 8) rfl (nI_1 r) (by decide) rfl (fun ls hl => ?_)
              refine lv_goto (tgt := 18) hx hb dL_areRoofs_385 (by decide) ?_
              refine W.widen (k := 10 * (r + 1)) (n := 1300 * (r + 1)) (by omega) (by omega) ?_
              refine ih_18 (r + 1) (by omega) _ _ hB hS ls (lv_eqv (lv_sub (l' := [(0, .ref o), (1, .int ((nI (suN (fun y => cN (ownB σ.1 y) (σ.1.2 2)) r)) + (nI (cN (ownB σ.1 r) (σ.1.2 2))))), (2, .int ((nI (suN (fun y => cN (heldB σ.1 y) (σ.1.2 2)) r)) + (nI (cN (heldB σ.1 r) (σ.1.2 2))))), (3, .int ((sI (σ.1.1 10) r) + (σ.1.1 10 r))), (4, .int ((sI (σ.1.1 11) r) + (σ.1.1 11 r))), (5, .int ((nI (suN (fun y => cN (fun z => decide (σ.1.1 2 z = nI y)) (σ.1.2 0)) r)) + (roofV σ.1 r 6))), (6, .int 1), (7, .int (nI (r + 1)))]) hl [8, 7, 6, 5, 4, 3, 1, 0] rfl) ?_)
              rw [show ((nI (suN (fun y => cN (ownB σ.1 y) (σ.1.2 2)) r)) + (nI (cN (ownB σ.1 r) (σ.1.2 2)))) = (nI (suN (fun y => cN (ownB σ.1 y) (σ.1.2 2)) (r + 1))) from (suN_s (fun y => cN (ownB σ.1 y) (σ.1.2 2)) r), show ((nI (suN (fun y => cN (heldB σ.1 y) (σ.1.2 2)) r)) + (nI (cN (heldB σ.1 r) (σ.1.2 2)))) = (nI (suN (fun y => cN (heldB σ.1 y) (σ.1.2 2)) (r + 1))) from (suN_s (fun y => cN (heldB σ.1 y) (σ.1.2 2)) r), show ((sI (σ.1.1 10) r) + (σ.1.1 10 r)) = (sI (σ.1.1 10) (r + 1)) from (rfl), show ((sI (σ.1.1 11) r) + (σ.1.1 11 r)) = (sI (σ.1.1 11) (r + 1)) from (rfl), show ((nI (suN (fun y => cN (fun z => decide (σ.1.1 2 z = nI y)) (σ.1.2 0)) r)) + (roofV σ.1 r 6)) = (nI (suN (fun y => cN (fun z => decide (σ.1.1 2 z = nI y)) (σ.1.2 0)) (r + 1))) from (suN_s (fun y => cN (fun z => decide (σ.1.1 2 z = nI y)) (σ.1.2 0)) r)]
            refine lv_iload hx hb dL_areRoofs_345 (lv_at hl 11 rfl) ?_
            refine lv_aload_n hx hb dL_areRoofs_347 rfl (lv_at hl 6 rfl) ?_
            refine lv_iload hx hb dL_areRoofs_348 (lv_at hl 8 rfl) ?_
            refine lv_iconst (v := 0) hx hb dL_areRoofs_350 (by decide) ?_
            refine core_p (v := .int (σ.1.1 5 r)) (grV (n := 2) (As := [.int (nI r), .int 0]) (rest := [.int (heS σ.1 r (σ.1.2 2)), .int (bI (decide (couN σ.1 r = nI (cN (heldB σ.1 r) (σ.1.2 2)))))]) h0 hF (m_X9_roofOf_0 h0 (cm := cm) (o := o) (σ := σ) hO (nI r) r rfl (by omega)) wm_L_98 wo_X9_roofOf ws_X9__X9_roofOf wz_X9 wc_X9_roofOf ⟨by decide, by decide, by decide +kernel⟩ rfl ⟨Nat.le_of_ble_eq_true rfl, Nat.le_of_ble_eq_true rfl⟩ (ci := 8) (SBH.rec hB) rfl hB hS hAo ⟨by show 10 * r + 0 ≤ 50; omega, by show 1300 * r + 0 ≤ 6500; omega⟩ hl.1 rfl (Nat.le_of_ble_eq_true rfl) dL_areRoofs_351) ?_
            refine lv_icmp_gt (tgt := 361) hx hb dL_areRoofs_354 (by decide) (fun c_354 => ?_) (fun c_354 => ?_)
            · have n_354 := Int32.not_le.mpr c_354
              refine lv_iconst (v := 0) hx hb dL_areRoofs_361 (by decide) ?_
              exact hJ_345 _ (by simp [bI, c_354, n_354])
            · have n_354 := Int32.not_lt.mp c_354
              refine lv_iconst (v := 1) hx hb dL_areRoofs_357 (by decide) ?_
              refine lv_goto (tgt := 362) hx hb dL_areRoofs_358 (by decide) ?_
              exact hJ_345 _ (by simp [bI, c_354, n_354])
          refine lv_iload hx hb dL_areRoofs_333 (lv_at hl 0 rfl) ?_
          refine lv_iload hx hb dL_areRoofs_335 (lv_at hl 10 rfl) ?_
          refine lv_icmp_ne (tgt := 344) hx hb dL_areRoofs_337 (by decide) (fun c_337 => ?_) (fun c_337 => ?_)
          · refine lv_iconst (v := 0) hx hb dL_areRoofs_344 (by decide) ?_
            exact hJ_333 _ (by simp [bI, c_337])
          · refine lv_iconst (v := 1) hx hb dL_areRoofs_340 (by decide) ?_
            refine lv_goto (tgt := 345) hx hb dL_areRoofs_341 (by decide) ?_
            exact hJ_333 _ (by simp [bI, c_337])
        | succ nf ih_48 =>
          intro q hq x11 ls hl
          have hq_l : q < σ.1.2 2 := by omega
          refine lv_iload hx hb dL_areRoofs_48 (lv_at hl 12 rfl) ?_
          refine lv_aload_n hx hb dL_areRoofs_50 rfl (lv_at hl 0 rfl) ?_
          refine lv_iconst (v := 2) hx hb dL_areRoofs_51 (by decide) ?_
          refine core_p (v := .int (nI (σ.1.2 2))) (grV (n := 1) (As := [.int 2]) (rest := [.int (nI q)]) h0 hF (m_X9_account_2 h0 (cm := cm) (o := o) (σ := σ) hO) wm_L_89 wo_X9_account ws_X9__X9_account wz_X9 wc_X9_account ⟨by decide, by decide, by decide +kernel⟩ rfl ⟨Nat.le_of_ble_eq_true rfl, Nat.le_of_ble_eq_true rfl⟩ (ci := 8) (SBH.rec hB) rfl hB hS hAo ⟨by show 10 * r + 0 ≤ 50; omega, by show 1300 * r + 0 ≤ 6500; omega⟩ hl.1 rfl (Nat.le_of_ble_eq_true rfl) dL_areRoofs_52) ?_
          refine lv_icmp_ge (tgt := 182) hx hb dL_areRoofs_55 (by decide) (fun c_55 => absurd c_55 (nI_ge (a := q) (b := σ.1.2 2) (by omega) (by omega))) (fun c_55 => ?_)
          have n_55 := Int32.not_le.mp c_55
          have hJ_58 : ∀ v9 : Int32, v9 = bI (ownB σ.1 r q) → W p l e ({ frames := 8, cells := 50, slots := 6500, locals := 191 } : Room) s m ([.ref o] : List Value).toArray below meth c H locs (10 * r) (1300 * r) (MQ below (qM (fun v H => v = some (.int 1) ∧ SBH X cm o σ H) (gA X)) ([.ref o] : List Value).toArray s 50 6500 (gA X)) (F0 m 75 ls (.int v9 :: [])) := by
            intro v9 hv9
            subst hv9
            refine lv_istore (lv' := [(13, .int (bI (ownB σ.1 r q))), (0, .ref o), (1, .int (nI (suN (fun y => cN (ownB σ.1 y) (σ.1.2 2)) r))), (2, .int (nI (suN (fun y => cN (heldB σ.1 y) (σ.1.2 2)) r))), (3, .int (sI (σ.1.1 10) r)), (4, .int (sI (σ.1.1 11) r)), (5, .int (nI (suN (fun y => cN (fun z => decide (σ.1.1 2 z = nI y)) (σ.1.2 0)) r))), (6, .int 1), (7, .int (nI r)), (8, .int (nI (cN (ownB σ.1 r) q))), (9, .int (nI (cN (heldB σ.1 r) q))), (10, .int (heS σ.1 r q)), (11, .int x11), (12, .int (nI q))]) hx hb dL_areRoofs_75 hl (by decide) rfl (fun ls hl => ?_)
            have hJ_77 : ∀ v9 : Int32, v9 = bI (heldB σ.1 r q) → W p l e ({ frames := 8, cells := 50, slots := 6500, locals := 191 } : Room) s m ([.ref o] : List Value).toArray below meth c H locs (10 * r) (1300 * r) (MQ below (qM (fun v H => v = some (.int 1) ∧ SBH X cm o σ H) (gA X)) ([.ref o] : List Value).toArray s 50 6500 (gA X)) (F0 m 99 ls (.int v9 :: [])) := by
              intro v9 hv9
              subst hv9
              refine lv_istore (lv' := [(14, .int (bI (heldB σ.1 r q))), (13, .int (bI (ownB σ.1 r q))), (0, .ref o), (1, .int (nI (suN (fun y => cN (ownB σ.1 y) (σ.1.2 2)) r))), (2, .int (nI (suN (fun y => cN (heldB σ.1 y) (σ.1.2 2)) r))), (3, .int (sI (σ.1.1 10) r)), (4, .int (sI (σ.1.1 11) r)), (5, .int (nI (suN (fun y => cN (fun z => decide (σ.1.1 2 z = nI y)) (σ.1.2 0)) r))), (6, .int 1), (7, .int (nI r)), (8, .int (nI (cN (ownB σ.1 r) q))), (9, .int (nI (cN (heldB σ.1 r) q))), (10, .int (heS σ.1 r q)), (11, .int x11), (12, .int (nI q))]) hx hb dL_areRoofs_99 hl (by decide) rfl (fun ls hl => ?_)
              refine lv_iload hx hb dL_areRoofs_101 (lv_at hl 10 rfl) ?_
              have hJ_103 : ∀ v9 : Int32, v9 = bI (ownB σ.1 r q) → W p l e ({ frames := 8, cells := 50, slots := 6500, locals := 191 } : Room) s m ([.ref o] : List Value).toArray below meth c H locs (10 * r) (1300 * r) (MQ below (qM (fun v H => v = some (.int 1) ∧ SBH X cm o σ H) (gA X)) ([.ref o] : List Value).toArray s 50 6500 (gA X)) (F0 m 113 ls (.int v9 :: [.int (nI (cN (ownB σ.1 r) q))])) := by
                intro v9 hv9
                subst hv9
                refine lv_iadd hx hb dL_areRoofs_113 ?_
                refine lv_istore (lv' := [(8, .int ((nI (cN (ownB σ.1 r) q)) + (bI (ownB σ.1 r q)))), (14, .int (bI (heldB σ.1 r q))), (13, .int (bI (ownB σ.1 r q))), (0, .ref o), (1, .int (nI (suN (fun y => cN (ownB σ.1 y) (σ.1.2 2)) r))), (2, .int (nI (suN (fun y => cN (heldB σ.1 y) (σ.1.2 2)) r))), (3, .int (sI (σ.1.1 10) r)), (4, .int (sI (σ.1.1 11) r)), (5, .int (nI (suN (fun y => cN (fun z => decide (σ.1.1 2 z = nI y)) (σ.1.2 0)) r))), (6, .int 1), (7, .int (nI r)), (9, .int (nI (cN (heldB σ.1 r) q))), (10, .int (heS σ.1 r q)), (11, .int x11), (12, .int (nI q))]) hx hb dL_areRoofs_114 hl (by decide) rfl (fun ls hl => ?_)
                refine lv_iload hx hb dL_areRoofs_116 (lv_at hl 11 rfl) ?_
                have hJ_118 : ∀ v9 : Int32, v9 = bI (heldB σ.1 r q) → W p l e ({ frames := 8, cells := 50, slots := 6500, locals := 191 } : Room) s m ([.ref o] : List Value).toArray below meth c H locs (10 * r) (1300 * r) (MQ below (qM (fun v H => v = some (.int 1) ∧ SBH X cm o σ H) (gA X)) ([.ref o] : List Value).toArray s 50 6500 (gA X)) (F0 m 128 ls (.int v9 :: [.int (nI (cN (heldB σ.1 r) q))])) := by
                  intro v9 hv9
                  subst hv9
                  refine lv_iadd hx hb dL_areRoofs_128 ?_
                  refine lv_istore (lv' := [(9, .int ((nI (cN (heldB σ.1 r) q)) + (bI (heldB σ.1 r q)))), (8, .int ((nI (cN (ownB σ.1 r) q)) + (bI (ownB σ.1 r q)))), (14, .int (bI (heldB σ.1 r q))), (13, .int (bI (ownB σ.1 r q))), (0, .ref o), (1, .int (nI (suN (fun y => cN (ownB σ.1 y) (σ.1.2 2)) r))), (2, .int (nI (suN (fun y => cN (heldB σ.1 y) (σ.1.2 2)) r))), (3, .int (sI (σ.1.1 10) r)), (4, .int (sI (σ.1.1 11) r)), (5, .int (nI (suN (fun y => cN (fun z => decide (σ.1.1 2 z = nI y)) (σ.1.2 0)) r))), (6, .int 1), (7, .int (nI r)), (10, .int (heS σ.1 r q)), (11, .int x11), (12, .int (nI q))]) hx hb dL_areRoofs_129 hl (by decide) rfl (fun ls hl => ?_)
                  refine lv_iload hx hb dL_areRoofs_131 (lv_at hl 12 rfl) ?_
                  have hJ_133 : ∀ v9 : Int32, v9 = (if heldB σ.1 r q = true then cost σ.1 q else 0) → W p l e ({ frames := 8, cells := 50, slots := 6500, locals := 191 } : Room) s m ([.ref o] : List Value).toArray below meth c H locs (10 * r) (1300 * r) (MQ below (qM (fun v H => v = some (.int 1) ∧ SBH X cm o σ H) (gA X)) ([.ref o] : List Value).toArray s 50 6500 (gA X)) (F0 m 149 ls (.int v9 :: [.int (heS σ.1 r q)])) := by
                    intro v9 hv9
                    subst hv9
                    refine lv_iadd hx hb dL_areRoofs_149 ?_
                    refine lv_istore (lv' := [(10, .int ((heS σ.1 r q) + (if heldB σ.1 r q = true then cost σ.1 q else 0))), (9, .int ((nI (cN (heldB σ.1 r) q)) + (bI (heldB σ.1 r q)))), (8, .int ((nI (cN (ownB σ.1 r) q)) + (bI (ownB σ.1 r q)))), (14, .int (bI (heldB σ.1 r q))), (13, .int (bI (ownB σ.1 r q))), (0, .ref o), (1, .int (nI (suN (fun y => cN (ownB σ.1 y) (σ.1.2 2)) r))), (2, .int (nI (suN (fun y => cN (heldB σ.1 y) (σ.1.2 2)) r))), (3, .int (sI (σ.1.1 10) r)), (4, .int (sI (σ.1.1 11) r)), (5, .int (nI (suN (fun y => cN (fun z => decide (σ.1.1 2 z = nI y)) (σ.1.2 0)) r))), (6, .int 1), (7, .int (nI r)), (11, .int x11), (12, .int (nI q))]) hx hb dL_areRoofs_150 hl (by decide) rfl (fun ls hl => ?_)
                    have hJ_152 : ∀ v9 : Int32, v9 = (if heldB σ.1 r q = true then (if x11 < wishV σ.1 q 5 then wishV σ.1 q 5 else x11) else x11) → W p l e ({ frames := 8, cells := 50, slots := 6500, locals := 191 } : Room) s m ([.ref o] : List Value).toArray below meth c H locs (10 * r) (1300 * r) (MQ below (qM (fun v H => v = some (.int 1) ∧ SBH X cm o σ H) (gA X)) ([.ref o] : List Value).toArray s 50 6500 (gA X)) (F0 m 174 ls (.int v9 :: [])) := by
                      intro v9 hv9
                      subst hv9
                      refine lv_istore (lv' := [(11, .int (if heldB σ.1 r q = true then (if x11 < wishV σ.1 q 5 then wishV σ.1 q 5 else x11) else x11)), (10, .int ((heS σ.1 r q) + (if heldB σ.1 r q = true then cost σ.1 q else 0))), (9, .int ((nI (cN (heldB σ.1 r) q)) + (bI (heldB σ.1 r q)))), (8, .int ((nI (cN (ownB σ.1 r) q)) + (bI (ownB σ.1 r q)))), (14, .int (bI (heldB σ.1 r q))), (13, .int (bI (ownB σ.1 r q))), (0, .ref o), (1, .int (nI (suN (fun y => cN (ownB σ.1 y) (σ.1.2 2)) r))), (2, .int (nI (suN (fun y => cN (heldB σ.1 y) (σ.1.2 2)) r))), (3, .int (sI (σ.1.1 10) r)), (4, .int (sI (σ.1.1 11) r)), (5, .int (nI (suN (fun y => cN (fun z => decide (σ.1.1 2 z = nI y)) (σ.1.2 0)) r))), (6, .int 1), (7, .int (nI r)), (12, .int (nI q))]) hx hb dL_areRoofs_174 hl (by decide) rfl (fun ls hl => ?_)
                      refine lv_iinc (v := nI (q + 1)) (lv' := [(12, .int (nI (q + 1))), (11, .int (if heldB σ.1 r q = true then (if x11 < wishV σ.1 q 5 then wishV σ.1 q 5 else x11) else x11)), (10, .int ((heS σ.1 r q) + (if heldB σ.1 r q = true then cost σ.1 q else 0))), (9, .int ((nI (cN (heldB σ.1 r) q)) + (bI (heldB σ.1 r q)))), (8, .int ((nI (cN (ownB σ.1 r) q)) + (bI (ownB σ.1 r q)))), (14, .int (bI (heldB σ.1 r q))), (13, .int (bI (ownB σ.1 r q))), (0, .ref o), (1, .int (nI (suN (fun y => cN (ownB σ.1 y) (σ.1.2 2)) r))), (2, .int (nI (suN (fun y => cN (heldB σ.1 y) (σ.1.2 2)) r))), (3, .int (sI (σ.1.1 10) r)), (4, .int (sI (σ.1.1 11) r)), (5, .int (nI (suN (fun y => cN (fun z => decide (σ.1.1 2 z = nI y)) (σ.1.2 0)) r))), (6, .int 1), (7, .int (nI r))]) hx hb dL_areRoofs_176 hl (k := 14) rfl (nI_1 q) (by decide) rfl (fun ls hl => ?_)
                      refine lv_goto (tgt := 48) hx hb dL_areRoofs_179 (by decide) ?_
                      refine ih_48 (q + 1) (by omega) (if heldB σ.1 r q = true then (if x11 < wishV σ.1 q 5 then wishV σ.1 q 5 else x11) else x11) ls (lv_eqv (lv_sub (l' := [(0, .ref o), (1, .int (nI (suN (fun y => cN (ownB σ.1 y) (σ.1.2 2)) r))), (2, .int (nI (suN (fun y => cN (heldB σ.1 y) (σ.1.2 2)) r))), (3, .int (sI (σ.1.1 10) r)), (4, .int (sI (σ.1.1 11) r)), (5, .int (nI (suN (fun y => cN (fun z => decide (σ.1.1 2 z = nI y)) (σ.1.2 0)) r))), (6, .int 1), (7, .int (nI r)), (8, .int ((nI (cN (ownB σ.1 r) q)) + (bI (ownB σ.1 r q)))), (9, .int ((nI (cN (heldB σ.1 r) q)) + (bI (heldB σ.1 r q)))), (10, .int ((heS σ.1 r q) + (if heldB σ.1 r q = true then cost σ.1 q else 0))), (11, .int (if heldB σ.1 r q = true then (if x11 < wishV σ.1 q 5 then wishV σ.1 q 5 else x11) else x11)), (12, .int (nI (q + 1)))]) hl [7, 8, 9, 10, 11, 12, 13, 14, 4, 3, 2, 1, 0] rfl) ?_)
                      rw [show ((nI (cN (ownB σ.1 r) q)) + (bI (ownB σ.1 r q))) = (nI (cN (ownB σ.1 r) (q + 1))) from (cN_b (ownB σ.1 r) q), show ((nI (cN (heldB σ.1 r) q)) + (bI (heldB σ.1 r q))) = (nI (cN (heldB σ.1 r) (q + 1))) from (cN_b (heldB σ.1 r) q), show ((heS σ.1 r q) + (if heldB σ.1 r q = true then cost σ.1 q else 0)) = (heS σ.1 r (q + 1)) from (rfl)]
                    refine lv_iload hx hb dL_areRoofs_152 (lv_at hl 3 rfl) ?_
                    refine lv_if_eq (tgt := 172) hx hb dL_areRoofs_154 (by decide) (fun c_154 => ?_) (fun c_154 => ?_)
                    · have n_154 := bI_0.mp c_154
                      refine lv_iload hx hb dL_areRoofs_172 (lv_at hl 13 rfl) ?_
                      exact hJ_152 _ (by simp [n_154])
                    · have n_154 := bI_n0.mp c_154
                      refine lv_iload hx hb dL_areRoofs_157 (lv_at hl 13 rfl) ?_
                      refine lv_aload_n hx hb dL_areRoofs_159 rfl (lv_at hl 5 rfl) ?_
                      refine lv_iload hx hb dL_areRoofs_160 (lv_at hl 14 rfl) ?_
                      refine lv_iconst (v := 5) hx hb dL_areRoofs_162 (by decide) ?_
                      refine core_p (v := .int (wishV σ.1 q 5)) (grV (n := 2) (As := [.int (nI q), .int 5]) (rest := [.int x11]) h0 hF (m_X9_wishOf_5 h0 (cm := cm) (o := o) (σ := σ) hO (nI q) q rfl (by omega)) wm_L_104 wo_X9_wishOf ws_X9__X9_wishOf wz_X9 wc_X9_wishOf ⟨by decide, by decide, by decide +kernel⟩ rfl ⟨Nat.le_of_ble_eq_true rfl, Nat.le_of_ble_eq_true rfl⟩ (ci := 8) (SBH.rec hB) rfl hB hS hAo ⟨by show 10 * r + 0 ≤ 50; omega, by show 1300 * r + 0 ≤ 6500; omega⟩ hl.1 rfl (Nat.le_of_ble_eq_true rfl) dL_areRoofs_163) ?_
                      refine va_mmax hx hb (by rw [hl.1]; exact hml) hown (hG.hts h0 _ _ wm_L_110) (hG.hts h0 _ _ wt_J9_max_7cf53) (hG.hts h0 _ _ wz_J9) (hG.hts h0 _ _ wc_J9_max_7cf53) (Nat.le_of_ble_eq_true rfl) (Nat.le_of_ble_eq_true rfl) (by show 10 * r ≤ 50; omega) (by show 1300 * r ≤ 6500; omega) dL_areRoofs_166 ?_
                      refine lv_goto (tgt := 174) hx hb dL_areRoofs_169 (by decide) ?_
                      exact hJ_152 _ (by simp [n_154])
                  refine lv_iload hx hb dL_areRoofs_133 (lv_at hl 2 rfl) ?_
                  refine lv_if_eq (tgt := 148) hx hb dL_areRoofs_135 (by decide) (fun c_135 => ?_) (fun c_135 => ?_)
                  · have n_135 := bI_0.mp c_135
                    refine lv_iconst (v := 0) hx hb dL_areRoofs_148 (by decide) ?_
                    exact hJ_133 _ (by first | exact held_5 n_135 | simp [n_135])
                  · have n_135 := bI_n0.mp c_135
                    refine lv_aload_n hx hb dL_areRoofs_138 rfl (lv_at hl 4 rfl) ?_
                    refine lv_iload hx hb dL_areRoofs_139 (lv_at hl 14 rfl) ?_
                    refine lv_iconst (v := 5) hx hb dL_areRoofs_141 (by decide) ?_
                    refine core_p (v := .int (wishV σ.1 q 5)) (grV (n := 2) (As := [.int (nI q), .int 5]) (rest := [.int (heS σ.1 r q)]) h0 hF (m_X9_wishOf_5 h0 (cm := cm) (o := o) (σ := σ) hO (nI q) q rfl (by omega)) wm_L_104 wo_X9_wishOf ws_X9__X9_wishOf wz_X9 wc_X9_wishOf ⟨by decide, by decide, by decide +kernel⟩ rfl ⟨Nat.le_of_ble_eq_true rfl, Nat.le_of_ble_eq_true rfl⟩ (ci := 8) (SBH.rec hB) rfl hB hS hAo ⟨by show 10 * r + 0 ≤ 50; omega, by show 1300 * r + 0 ≤ 6500; omega⟩ hl.1 rfl (Nat.le_of_ble_eq_true rfl) dL_areRoofs_142) ?_
                    refine lv_goto (tgt := 149) hx hb dL_areRoofs_145 (by decide) ?_
                    exact hJ_133 _ (by first | exact held_5 n_135 | simp [n_135])
                refine lv_iload hx hb dL_areRoofs_118 (lv_at hl 1 rfl) ?_
                refine lv_if_eq (tgt := 127) hx hb dL_areRoofs_120 (by decide) (fun c_120 => ?_) (fun c_120 => ?_)
                · have n_120 := bI_0.mp c_120
                  refine lv_iconst (v := 0) hx hb dL_areRoofs_127 (by decide) ?_
                  exact hJ_118 _ (by simp [bI, n_120])
                · have n_120 := bI_n0.mp c_120
                  refine lv_iconst (v := 1) hx hb dL_areRoofs_123 (by decide) ?_
                  refine lv_goto (tgt := 128) hx hb dL_areRoofs_124 (by decide) ?_
                  exact hJ_118 _ (by simp [bI, n_120])
              refine lv_iload hx hb dL_areRoofs_103 (lv_at hl 1 rfl) ?_
              refine lv_if_eq (tgt := 112) hx hb dL_areRoofs_105 (by decide) (fun c_105 => ?_) (fun c_105 => ?_)
              · have n_105 := bI_0.mp c_105
                refine lv_iconst (v := 0) hx hb dL_areRoofs_112 (by decide) ?_
                exact hJ_103 _ (by simp [bI, n_105])
              · have n_105 := bI_n0.mp c_105
                refine lv_iconst (v := 1) hx hb dL_areRoofs_108 (by decide) ?_
                refine lv_goto (tgt := 113) hx hb dL_areRoofs_109 (by decide) ?_
                exact hJ_103 _ (by simp [bI, n_105])
            refine lv_iload hx hb dL_areRoofs_77 (lv_at hl 0 rfl) ?_
            refine lv_if_eq (tgt := 98) hx hb dL_areRoofs_79 (by decide) (fun c_79 => ?_) (fun c_79 => ?_)
            · have n_79 := bI_0.mp c_79
              refine lv_iconst (v := 0) hx hb dL_areRoofs_98 (by decide) ?_
              exact hJ_77 _ (by simp [bI, heldB, isImp, n_79])
            · have n_79 := bI_n0.mp c_79
              refine lv_aload_n hx hb dL_areRoofs_82 rfl (lv_at hl 1 rfl) ?_
              refine lv_iload hx hb dL_areRoofs_83 (lv_at hl 13 rfl) ?_
              refine lv_iconst (v := 4) hx hb dL_areRoofs_85 (by decide) ?_
              refine core_p (v := .int (σ.1.1 18 q)) (grV (n := 2) (As := [.int (nI q), .int 4]) (rest := []) h0 hF (m_X9_wishOf_4 h0 (cm := cm) (o := o) (σ := σ) hO (nI q) q rfl (by omega)) wm_L_104 wo_X9_wishOf ws_X9__X9_wishOf wz_X9 wc_X9_wishOf ⟨by decide, by decide, by decide +kernel⟩ rfl ⟨Nat.le_of_ble_eq_true rfl, Nat.le_of_ble_eq_true rfl⟩ (ci := 8) (SBH.rec hB) rfl hB hS hAo ⟨by show 10 * r + 0 ≤ 50; omega, by show 1300 * r + 0 ≤ 6500; omega⟩ hl.1 rfl (Nat.le_of_ble_eq_true rfl) dL_areRoofs_86) ?_
              refine lv_bipush (v := (-4)) hx hb dL_areRoofs_89 (by decide) ?_
              refine lv_icmp_eq (tgt := 98) hx hb dL_areRoofs_91 (by decide) (fun c_91 => ?_) (fun c_91 => ?_)
              · refine lv_iconst (v := 0) hx hb dL_areRoofs_98 (by decide) ?_
                exact hJ_77 _ (by simp [bI, heldB, isImp, n_79, c_91])
              · refine lv_iconst (v := 1) hx hb dL_areRoofs_94 (by decide) ?_
                refine lv_goto (tgt := 99) hx hb dL_areRoofs_95 (by decide) ?_
                exact hJ_77 _ (by simp [bI, heldB, isImp, n_79, c_91])
          refine lv_aload_n hx hb dL_areRoofs_58 rfl (lv_at hl 0 rfl) ?_
          refine lv_iload hx hb dL_areRoofs_59 (lv_at hl 12 rfl) ?_
          refine lv_iconst (v := 0) hx hb dL_areRoofs_61 (by decide) ?_
          refine core_p (v := .int (σ.1.1 14 q)) (grV (n := 2) (As := [.int (nI q), .int 0]) (rest := []) h0 hF (m_X9_wishOf_0 h0 (cm := cm) (o := o) (σ := σ) hO (nI q) q rfl (by omega)) wm_L_104 wo_X9_wishOf ws_X9__X9_wishOf wz_X9 wc_X9_wishOf ⟨by decide, by decide, by decide +kernel⟩ rfl ⟨Nat.le_of_ble_eq_true rfl, Nat.le_of_ble_eq_true rfl⟩ (ci := 8) (SBH.rec hB) rfl hB hS hAo ⟨by show 10 * r + 0 ≤ 50; omega, by show 1300 * r + 0 ≤ 6500; omega⟩ hl.1 rfl (Nat.le_of_ble_eq_true rfl) dL_areRoofs_62) ?_
          refine lv_iload hx hb dL_areRoofs_65 (lv_at hl 7 rfl) ?_
          refine lv_icmp_ne (tgt := 74) hx hb dL_areRoofs_67 (by decide) (fun c_67 => ?_) (fun c_67 => ?_)
          · refine lv_iconst (v := 0) hx hb dL_areRoofs_74 (by decide) ?_
            exact hJ_58 _ (by simp [bI, ownB, c_67])
          · refine lv_iconst (v := 1) hx hb dL_areRoofs_70 (by decide) ?_
            refine lv_goto (tgt := 75) hx hb dL_areRoofs_71 (by decide) ?_
            exact hJ_58 _ (by simp [bI, ownB, c_67])
      exact key_48 (σ.1.2 2) 0 (by omega) 0 ls (lv_sub hl [5, 6, 7, 8, 9, 10, 11, 12, 4, 3, 2, 1, 0] rfl)
  refine W.widen (k := 10 * 0) (n := 1300 * 0) (by omega) (by omega) ?_
  exact key_18 (σ.1.2 1) 0 (by omega) _ _ hB hS ls (lv_sub hl [7, 6, 5, 4, 3, 2, 1, 0] rfl)
