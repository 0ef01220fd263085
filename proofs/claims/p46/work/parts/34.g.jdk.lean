set_option maxHeartbeats 4000000 in
set_option maxRecDepth 100000 in
theorem m_J6_stringSize_0f7a4 {X : Cx} {l : Launch} (h0 : Init X) {w : Nat} (hw : w < 2 ^ 31) : PM X l yJ6_stringSize_0f7a4 cJ6_stringSize_0f7a4 4 (some .int) 0 0 [.int (nI w)] noW (.int (nI (sb_dg w))) := by
  refine Met.mk (Bh := noW) (by decide) (Nat.le_of_ble_eq_true rfl) ?_
  intro p e s m below meth c ls hF hB hl
  have hl : lv_has ls 4 [(0, .int (nI w))] := hl
  obtain ⟨hx, hb, hml, hr, hlk, hown, hG⟩ := id hF
  have hK := hG.K h0
  have hS : va_S noA s.heap s.heap [] := va_S.rf
  refine lv_iconst (v := 1) hx hb dJ6_stringSize_0f7a4_0 (by decide) ?_
  refine lv_istore_n (lv' := [(1, .int 1), (0, .int (nI w))]) hx hb dJ6_stringSize_0f7a4_1 rfl hl (by decide) rfl (fun ls hl => ?_)
  refine lv_iload_n hx hb dJ6_stringSize_0f7a4_2 rfl (lv_at hl 1 rfl) ?_
  refine lv_if_lt (tgt := 11) hx hb dJ6_stringSize_0f7a4_3 (by decide) (fun c_3 => absurd c_3 (nI_pos hw)) (fun c_3 => ?_)
  have n_3 := Int32.not_lt.mp c_3
  refine lv_iconst (v := 0) hx hb dJ6_stringSize_0f7a4_6 (by decide) ?_
  refine lv_istore_n (lv' := [(1, .int 0), (0, .int (nI w))]) hx hb dJ6_stringSize_0f7a4_7 rfl hl (by decide) rfl (fun ls hl => ?_)
  refine lv_iload_n hx hb dJ6_stringSize_0f7a4_8 rfl (lv_at hl 1 rfl) ?_
  refine lv_ineg hx hb dJ6_stringSize_0f7a4_9 ?_
  refine lv_topE (y := -nI w) (rfl) ?_
  refine lv_istore_n (lv' := [(0, .int (-nI w)), (1, .int 0)]) hx hb dJ6_stringSize_0f7a4_10 rfl hl (by decide) rfl (fun ls hl => ?_)
  refine lv_bipush (v := (-10)) hx hb dJ6_stringSize_0f7a4_11 (by decide) ?_
  refine lv_istore_n (lv' := [(2, .int (-10)), (0, .int (-nI w)), (1, .int 0)]) hx hb dJ6_stringSize_0f7a4_13 rfl hl (by decide) rfl (fun ls hl => ?_)
  refine lv_iconst (v := 1) hx hb dJ6_stringSize_0f7a4_14 (by decide) ?_
  refine lv_istore_n (lv' := [(3, .int 1), (2, .int (-10)), (0, .int (-nI w)), (1, .int 0)]) hx hb dJ6_stringSize_0f7a4_15 rfl hl (by decide) rfl (fun ls hl => ?_)
  refine lv_iload_n hx hb dJ6_stringSize_0f7a4_16 rfl (lv_at hl 0 rfl) ?_
  refine lv_bipush (v := 10) hx hb dJ6_stringSize_0f7a4_17 (by decide) ?_
  refine lv_icmp_ge (tgt := 42) hx hb dJ6_stringSize_0f7a4_19 (by decide) (fun c_19 => absurd c_19 (by decide)) (fun c_19 => ?_)
  refine lv_iload_n hx hb dJ6_stringSize_0f7a4_22 rfl (lv_at hl 2 rfl) ?_
  refine lv_iload_n hx hb dJ6_stringSize_0f7a4_23 rfl (lv_at hl 1 rfl) ?_
  refine lv_icmp_le (tgt := 31) hx hb dJ6_stringSize_0f7a4_24 (by decide) (fun c_24 => ?_) (fun c_24 => ?_)
  · have n_24 := Int32.not_lt.mpr c_24
    have hs1 : 10 ≤ w := (sb_nle (a := w) (b := 10) hw (by decide)).mp c_24
    refine lv_bipush (v := 10) hx hb dJ6_stringSize_0f7a4_31 (by decide) ?_
    refine lv_iload_n hx hb dJ6_stringSize_0f7a4_33 rfl (lv_at hl 1 rfl) ?_
    refine lv_imul hx hb dJ6_stringSize_0f7a4_34 ?_
    refine lv_topE (y := (-100)) (by decide) ?_
    refine lv_istore_n (lv' := [(2, .int (-100)), (3, .int 1), (0, .int (-nI w)), (1, .int 0)]) hx hb dJ6_stringSize_0f7a4_35 rfl hl (by decide) rfl (fun ls hl => ?_)
    refine lv_iinc (v := 2) (lv' := [(3, .int 2), (2, .int (-100)), (0, .int (-nI w)), (1, .int 0)]) hx hb dJ6_stringSize_0f7a4_36 hl (k := 1) rfl (by decide) (by decide) rfl (fun ls hl => ?_)
    refine lv_goto (tgt := 16) hx hb dJ6_stringSize_0f7a4_39 (by decide) ?_
    refine lv_iload_n hx hb dJ6_stringSize_0f7a4_16 rfl (lv_at hl 0 rfl) ?_
    refine lv_bipush (v := 10) hx hb dJ6_stringSize_0f7a4_17 (by decide) ?_
    refine lv_icmp_ge (tgt := 42) hx hb dJ6_stringSize_0f7a4_19 (by decide) (fun c_19 => absurd c_19 (by decide)) (fun c_19 => ?_)
    refine lv_iload_n hx hb dJ6_stringSize_0f7a4_22 rfl (lv_at hl 2 rfl) ?_
    refine lv_iload_n hx hb dJ6_stringSize_0f7a4_23 rfl (lv_at hl 1 rfl) ?_
    refine lv_icmp_le (tgt := 31) hx hb dJ6_stringSize_0f7a4_24 (by decide) (fun c_24' => ?_) (fun c_24' => ?_)
    · have n_24' := Int32.not_lt.mpr c_24'
      have hs2 : 100 ≤ w := (sb_nle (a := w) (b := 100) hw (by decide)).mp c_24'
      refine lv_bipush (v := 10) hx hb dJ6_stringSize_0f7a4_31 (by decide) ?_
      refine lv_iload_n hx hb dJ6_stringSize_0f7a4_33 rfl (lv_at hl 1 rfl) ?_
      refine lv_imul hx hb dJ6_stringSize_0f7a4_34 ?_
      refine lv_topE (y := (-1000)) (by decide) ?_
      refine lv_istore_n (lv' := [(2, .int (-1000)), (3, .int 2), (0, .int (-nI w)), (1, .int 0)]) hx hb dJ6_stringSize_0f7a4_35 rfl hl (by decide) rfl (fun ls hl => ?_)
      refine lv_iinc (v := 3) (lv' := [(3, .int 3), (2, .int (-1000)), (0, .int (-nI w)), (1, .int 0)]) hx hb dJ6_stringSize_0f7a4_36 hl (k := 1) rfl (by decide) (by decide) rfl (fun ls hl => ?_)
      refine lv_goto (tgt := 16) hx hb dJ6_stringSize_0f7a4_39 (by decide) ?_
      refine lv_iload_n hx hb dJ6_stringSize_0f7a4_16 rfl (lv_at hl 0 rfl) ?_
      refine lv_bipush (v := 10) hx hb dJ6_stringSize_0f7a4_17 (by decide) ?_
      refine lv_icmp_ge (tgt := 42) hx hb dJ6_stringSize_0f7a4_19 (by decide) (fun c_19 => absurd c_19 (by decide)) (fun c_19 => ?_)
      refine lv_iload_n hx hb dJ6_stringSize_0f7a4_22 rfl (lv_at hl 2 rfl) ?_
      refine lv_iload_n hx hb dJ6_stringSize_0f7a4_23 rfl (lv_at hl 1 rfl) ?_
      refine lv_icmp_le (tgt := 31) hx hb dJ6_stringSize_0f7a4_24 (by decide) (fun c_24'' => ?_) (fun c_24'' => ?_)
      · have n_24'' := Int32.not_lt.mpr c_24''
        have hs3 : 1000 ≤ w := (sb_nle (a := w) (b := 1000) hw (by decide)).mp c_24''
        refine lv_bipush (v := 10) hx hb dJ6_stringSize_0f7a4_31 (by decide) ?_
        refine lv_iload_n hx hb dJ6_stringSize_0f7a4_33 rfl (lv_at hl 1 rfl) ?_
        refine lv_imul hx hb dJ6_stringSize_0f7a4_34 ?_
        refine lv_topE (y := (-10000)) (by decide) ?_
        refine lv_istore_n (lv' := [(2, .int (-10000)), (3, .int 3), (0, .int (-nI w)), (1, .int 0)]) hx hb dJ6_stringSize_0f7a4_35 rfl hl (by decide) rfl (fun ls hl => ?_)
        refine lv_iinc (v := 4) (lv' := [(3, .int 4), (2, .int (-10000)), (0, .int (-nI w)), (1, .int 0)]) hx hb dJ6_stringSize_0f7a4_36 hl (k := 1) rfl (by decide) (by decide) rfl (fun ls hl => ?_)
        refine lv_goto (tgt := 16) hx hb dJ6_stringSize_0f7a4_39 (by decide) ?_
        refine lv_iload_n hx hb dJ6_stringSize_0f7a4_16 rfl (lv_at hl 0 rfl) ?_
        refine lv_bipush (v := 10) hx hb dJ6_stringSize_0f7a4_17 (by decide) ?_
        refine lv_icmp_ge (tgt := 42) hx hb dJ6_stringSize_0f7a4_19 (by decide) (fun c_19 => absurd c_19 (by decide)) (fun c_19 => ?_)
        refine lv_iload_n hx hb dJ6_stringSize_0f7a4_22 rfl (lv_at hl 2 rfl) ?_
        refine lv_iload_n hx hb dJ6_stringSize_0f7a4_23 rfl (lv_at hl 1 rfl) ?_
        refine lv_icmp_le (tgt := 31) hx hb dJ6_stringSize_0f7a4_24 (by decide) (fun c_24''' => ?_) (fun c_24''' => ?_)
        · have n_24''' := Int32.not_lt.mpr c_24'''
          have hs4 : 10000 ≤ w := (sb_nle (a := w) (b := 10000) hw (by decide)).mp c_24'''
          refine lv_bipush (v := 10) hx hb dJ6_stringSize_0f7a4_31 (by decide) ?_
          refine lv_iload_n hx hb dJ6_stringSize_0f7a4_33 rfl (lv_at hl 1 rfl) ?_
          refine lv_imul hx hb dJ6_stringSize_0f7a4_34 ?_
          refine lv_topE (y := (-100000)) (by decide) ?_
          refine lv_istore_n (lv' := [(2, .int (-100000)), (3, .int 4), (0, .int (-nI w)), (1, .int 0)]) hx hb dJ6_stringSize_0f7a4_35 rfl hl (by decide) rfl (fun ls hl => ?_)
          refine lv_iinc (v := 5) (lv' := [(3, .int 5), (2, .int (-100000)), (0, .int (-nI w)), (1, .int 0)]) hx hb dJ6_stringSize_0f7a4_36 hl (k := 1) rfl (by decide) (by decide) rfl (fun ls hl => ?_)
          refine lv_goto (tgt := 16) hx hb dJ6_stringSize_0f7a4_39 (by decide) ?_
          refine lv_iload_n hx hb dJ6_stringSize_0f7a4_16 rfl (lv_at hl 0 rfl) ?_
          refine lv_bipush (v := 10) hx hb dJ6_stringSize_0f7a4_17 (by decide) ?_
          refine lv_icmp_ge (tgt := 42) hx hb dJ6_stringSize_0f7a4_19 (by decide) (fun c_19 => absurd c_19 (by decide)) (fun c_19 => ?_)
          refine lv_iload_n hx hb dJ6_stringSize_0f7a4_22 rfl (lv_at hl 2 rfl) ?_
          refine lv_iload_n hx hb dJ6_stringSize_0f7a4_23 rfl (lv_at hl 1 rfl) ?_
          refine lv_icmp_le (tgt := 31) hx hb dJ6_stringSize_0f7a4_24 (by decide) (fun c_24'''' => ?_) (fun c_24'''' => ?_)
          · have n_24'''' := Int32.not_lt.mpr c_24''''
            have hs5 : 100000 ≤ w := (sb_nle (a := w) (b := 100000) hw (by decide)).mp c_24''''
            refine lv_bipush (v := 10) hx hb dJ6_stringSize_0f7a4_31 (by decide) ?_
            refine lv_iload_n hx hb dJ6_stringSize_0f7a4_33 rfl (lv_at hl 1 rfl) ?_
            refine lv_imul hx hb dJ6_stringSize_0f7a4_34 ?_
            refine lv_topE (y := (-1000000)) (by decide) ?_
            refine lv_istore_n (lv' := [(2, .int (-1000000)), (3, .int 5), (0, .int (-nI w)), (1, .int 0)]) hx hb dJ6_stringSize_0f7a4_35 rfl hl (by decide) rfl (fun ls hl => ?_)
            refine lv_iinc (v := 6) (lv' := [(3, .int 6), (2, .int (-1000000)), (0, .int (-nI w)), (1, .int 0)]) hx hb dJ6_stringSize_0f7a4_36 hl (k := 1) rfl (by decide) (by decide) rfl (fun ls hl => ?_)
            refine lv_goto (tgt := 16) hx hb dJ6_stringSize_0f7a4_39 (by decide) ?_
            refine lv_iload_n hx hb dJ6_stringSize_0f7a4_16 rfl (lv_at hl 0 rfl) ?_
            refine lv_bipush (v := 10) hx hb dJ6_stringSize_0f7a4_17 (by decide) ?_
            refine lv_icmp_ge (tgt := 42) hx hb dJ6_stringSize_0f7a4_19 (by decide) (fun c_19 => absurd c_19 (by decide)) (fun c_19 => ?_)
            refine lv_iload_n hx hb dJ6_stringSize_0f7a4_22 rfl (lv_at hl 2 rfl) ?_
            refine lv_iload_n hx hb dJ6_stringSize_0f7a4_23 rfl (lv_at hl 1 rfl) ?_
            refine lv_icmp_le (tgt := 31) hx hb dJ6_stringSize_0f7a4_24 (by decide) (fun c_24''''' => ?_) (fun c_24''''' => ?_)
            · have n_24''''' := Int32.not_lt.mpr c_24'''''
              have hs6 : 1000000 ≤ w := (sb_nle (a := w) (b := 1000000) hw (by decide)).mp c_24'''''
              refine lv_bipush (v := 10) hx hb dJ6_stringSize_0f7a4_31 (by decide) ?_
              refine lv_iload_n hx hb dJ6_stringSize_0f7a4_33 rfl (lv_at hl 1 rfl) ?_
              refine lv_imul hx hb dJ6_stringSize_0f7a4_34 ?_
              refine lv_topE (y := (-10000000)) (by decide) ?_
              refine lv_istore_n (lv' := [(2, .int (-10000000)), (3, .int 6), (0, .int (-nI w)), (1, .int 0)]) hx hb dJ6_stringSize_0f7a4_35 rfl hl (by decide) rfl (fun ls hl => ?_)
              refine lv_iinc (v := 7) (lv' := [(3, .int 7), (2, .int (-10000000)), (0, .int (-nI w)), (1, .int 0)]) hx hb dJ6_stringSize_0f7a4_36 hl (k := 1) rfl (by decide) (by decide) rfl (fun ls hl => ?_)
              refine lv_goto (tgt := 16) hx hb dJ6_stringSize_0f7a4_39 (by decide) ?_
              refine lv_iload_n hx hb dJ6_stringSize_0f7a4_16 rfl (lv_at hl 0 rfl) ?_
              refine lv_bipush (v := 10) hx hb dJ6_stringSize_0f7a4_17 (by decide) ?_
              refine lv_icmp_ge (tgt := 42) hx hb dJ6_stringSize_0f7a4_19 (by decide) (fun c_19 => absurd c_19 (by decide)) (fun c_19 => ?_)
              refine lv_iload_n hx hb dJ6_stringSize_0f7a4_22 rfl (lv_at hl 2 rfl) ?_
              refine lv_iload_n hx hb dJ6_stringSize_0f7a4_23 rfl (lv_at hl 1 rfl) ?_
              refine lv_icmp_le (tgt := 31) hx hb dJ6_stringSize_0f7a4_24 (by decide) (fun c_24'''''' => ?_) (fun c_24'''''' => ?_)
              · have n_24'''''' := Int32.not_lt.mpr c_24''''''
                have hs7 : 10000000 ≤ w := (sb_nle (a := w) (b := 10000000) hw (by decide)).mp c_24''''''
                refine lv_bipush (v := 10) hx hb dJ6_stringSize_0f7a4_31 (by decide) ?_
                refine lv_iload_n hx hb dJ6_stringSize_0f7a4_33 rfl (lv_at hl 1 rfl) ?_
                refine lv_imul hx hb dJ6_stringSize_0f7a4_34 ?_
                refine lv_topE (y := (-100000000)) (by decide) ?_
                refine lv_istore_n (lv' := [(2, .int (-100000000)), (3, .int 7), (0, .int (-nI w)), (1, .int 0)]) hx hb dJ6_stringSize_0f7a4_35 rfl hl (by decide) rfl (fun ls hl => ?_)
                refine lv_iinc (v := 8) (lv' := [(3, .int 8), (2, .int (-100000000)), (0, .int (-nI w)), (1, .int 0)]) hx hb dJ6_stringSize_0f7a4_36 hl (k := 1) rfl (by decide) (by decide) rfl (fun ls hl => ?_)
                refine lv_goto (tgt := 16) hx hb dJ6_stringSize_0f7a4_39 (by decide) ?_
                refine lv_iload_n hx hb dJ6_stringSize_0f7a4_16 rfl (lv_at hl 0 rfl) ?_
                refine lv_bipush (v := 10) hx hb dJ6_stringSize_0f7a4_17 (by decide) ?_
                refine lv_icmp_ge (tgt := 42) hx hb dJ6_stringSize_0f7a4_19 (by decide) (fun c_19 => absurd c_19 (by decide)) (fun c_19 => ?_)
                refine lv_iload_n hx hb dJ6_stringSize_0f7a4_22 rfl (lv_at hl 2 rfl) ?_
                refine lv_iload_n hx hb dJ6_stringSize_0f7a4_23 rfl (lv_at hl 1 rfl) ?_
                refine lv_icmp_le (tgt := 31) hx hb dJ6_stringSize_0f7a4_24 (by decide) (fun c_24''''''' => ?_) (fun c_24''''''' => ?_)
                · have n_24''''''' := Int32.not_lt.mpr c_24'''''''
                  have hs8 : 100000000 ≤ w := (sb_nle (a := w) (b := 100000000) hw (by decide)).mp c_24'''''''
                  refine lv_bipush (v := 10) hx hb dJ6_stringSize_0f7a4_31 (by decide) ?_
                  refine lv_iload_n hx hb dJ6_stringSize_0f7a4_33 rfl (lv_at hl 1 rfl) ?_
                  refine lv_imul hx hb dJ6_stringSize_0f7a4_34 ?_
                  refine lv_topE (y := (-1000000000)) (by decide) ?_
                  refine lv_istore_n (lv' := [(2, .int (-1000000000)), (3, .int 8), (0, .int (-nI w)), (1, .int 0)]) hx hb dJ6_stringSize_0f7a4_35 rfl hl (by decide) rfl (fun ls hl => ?_)
                  refine lv_iinc (v := 9) (lv' := [(3, .int 9), (2, .int (-1000000000)), (0, .int (-nI w)), (1, .int 0)]) hx hb dJ6_stringSize_0f7a4_36 hl (k := 1) rfl (by decide) (by decide) rfl (fun ls hl => ?_)
                  refine lv_goto (tgt := 16) hx hb dJ6_stringSize_0f7a4_39 (by decide) ?_
                  refine lv_iload_n hx hb dJ6_stringSize_0f7a4_16 rfl (lv_at hl 0 rfl) ?_
                  refine lv_bipush (v := 10) hx hb dJ6_stringSize_0f7a4_17 (by decide) ?_
                  refine lv_icmp_ge (tgt := 42) hx hb dJ6_stringSize_0f7a4_19 (by decide) (fun c_19 => absurd c_19 (by decide)) (fun c_19 => ?_)
                  refine lv_iload_n hx hb dJ6_stringSize_0f7a4_22 rfl (lv_at hl 2 rfl) ?_
                  refine lv_iload_n hx hb dJ6_stringSize_0f7a4_23 rfl (lv_at hl 1 rfl) ?_
                  refine lv_icmp_le (tgt := 31) hx hb dJ6_stringSize_0f7a4_24 (by decide) (fun c_24'''''''' => ?_) (fun c_24'''''''' => ?_)
                  · have n_24'''''''' := Int32.not_lt.mpr c_24''''''''
                    have hs9 : 1000000000 ≤ w := (sb_nle (a := w) (b := 1000000000) hw (by decide)).mp c_24''''''''
                    refine lv_bipush (v := 10) hx hb dJ6_stringSize_0f7a4_31 (by decide) ?_
                    refine lv_iload_n hx hb dJ6_stringSize_0f7a4_33 rfl (lv_at hl 1 rfl) ?_
                    refine lv_imul hx hb dJ6_stringSize_0f7a4_34 ?_
                    refine lv_topE (y := (-10000000000)) (by decide) ?_
                    refine lv_istore_n (lv' := [(2, .int (-10000000000)), (3, .int 9), (0, .int (-nI w)), (1, .int 0)]) hx hb dJ6_stringSize_0f7a4_35 rfl hl (by decide) rfl (fun ls hl => ?_)
                    refine lv_iinc (v := 10) (lv' := [(3, .int 10), (2, .int (-10000000000)), (0, .int (-nI w)), (1, .int 0)]) hx hb dJ6_stringSize_0f7a4_36 hl (k := 1) rfl (by decide) (by decide) rfl (fun ls hl => ?_)
                    refine lv_goto (tgt := 16) hx hb dJ6_stringSize_0f7a4_39 (by decide) ?_
                    refine lv_iload_n hx hb dJ6_stringSize_0f7a4_16 rfl (lv_at hl 0 rfl) ?_
                    refine lv_bipush (v := 10) hx hb dJ6_stringSize_0f7a4_17 (by decide) ?_
                    refine lv_icmp_ge (tgt := 42) hx hb dJ6_stringSize_0f7a4_19 (by decide) (fun c_19 => ?_) (fun c_19 => absurd c_19 (by decide))
                    refine lv_bipush (v := 10) hx hb dJ6_stringSize_0f7a4_42 (by decide) ?_
                    refine lv_iload_n hx hb dJ6_stringSize_0f7a4_44 rfl (lv_at hl 3 rfl) ?_
                    refine lv_iadd hx hb dJ6_stringSize_0f7a4_45 ?_
                    refine lv_topE (y := 10) (by decide) ?_
                    exact pm_iret hF dJ6_stringSize_0f7a4_46 (by rw [show sb_dg w = 10 from by unfold sb_dg; (repeat' split) <;> omega]; rfl)
                  · have n_24'''''''' := Int32.not_le.mp c_24''''''''
                    have hs9 : w < 1000000000 := (sb_nlt (a := 1000000000) (b := w) (by decide) hw).mp n_24''''''''
                    refine lv_iload_n hx hb dJ6_stringSize_0f7a4_27 rfl (lv_at hl 0 rfl) ?_
                    refine lv_iload_n hx hb dJ6_stringSize_0f7a4_28 rfl (lv_at hl 3 rfl) ?_
                    refine lv_iadd hx hb dJ6_stringSize_0f7a4_29 ?_
                    refine lv_topE (y := 9) (by decide) ?_
                    exact pm_iret hF dJ6_stringSize_0f7a4_30 (by rw [show sb_dg w = 9 from by unfold sb_dg; (repeat' split) <;> omega]; rfl)
                · have n_24''''''' := Int32.not_le.mp c_24'''''''
                  have hs8 : w < 100000000 := (sb_nlt (a := 100000000) (b := w) (by decide) hw).mp n_24'''''''
                  refine lv_iload_n hx hb dJ6_stringSize_0f7a4_27 rfl (lv_at hl 0 rfl) ?_
                  refine lv_iload_n hx hb dJ6_stringSize_0f7a4_28 rfl (lv_at hl 3 rfl) ?_
                  refine lv_iadd hx hb dJ6_stringSize_0f7a4_29 ?_
                  refine lv_topE (y := 8) (by decide) ?_
                  exact pm_iret hF dJ6_stringSize_0f7a4_30 (by rw [show sb_dg w = 8 from by unfold sb_dg; (repeat' split) <;> omega]; rfl)
              · have n_24'''''' := Int32.not_le.mp c_24''''''
                have hs7 : w < 10000000 := (sb_nlt (a := 10000000) (b := w) (by decide) hw).mp n_24''''''
                refine lv_iload_n hx hb dJ6_stringSize_0f7a4_27 rfl (lv_at hl 0 rfl) ?_
                refine lv_iload_n hx hb dJ6_stringSize_0f7a4_28 rfl (lv_at hl 3 rfl) ?_
                refine lv_iadd hx hb dJ6_stringSize_0f7a4_29 ?_
                refine lv_topE (y := 7) (by decide) ?_
                exact pm_iret hF dJ6_stringSize_0f7a4_30 (by rw [show sb_dg w = 7 from by unfold sb_dg; (repeat' split) <;> omega]; rfl)
            · have n_24''''' := Int32.not_le.mp c_24'''''
              have hs6 : w < 1000000 := (sb_nlt (a := 1000000) (b := w) (by decide) hw).mp n_24'''''
              refine lv_iload_n hx hb dJ6_stringSize_0f7a4_27 rfl (lv_at hl 0 rfl) ?_
              refine lv_iload_n hx hb dJ6_stringSize_0f7a4_28 rfl (lv_at hl 3 rfl) ?_
              refine lv_iadd hx hb dJ6_stringSize_0f7a4_29 ?_
              refine lv_topE (y := 6) (by decide) ?_
              exact pm_iret hF dJ6_stringSize_0f7a4_30 (by rw [show sb_dg w = 6 from by unfold sb_dg; (repeat' split) <;> omega]; rfl)
          · have n_24'''' := Int32.not_le.mp c_24''''
            have hs5 : w < 100000 := (sb_nlt (a := 100000) (b := w) (by decide) hw).mp n_24''''
            refine lv_iload_n hx hb dJ6_stringSize_0f7a4_27 rfl (lv_at hl 0 rfl) ?_
            refine lv_iload_n hx hb dJ6_stringSize_0f7a4_28 rfl (lv_at hl 3 rfl) ?_
            refine lv_iadd hx hb dJ6_stringSize_0f7a4_29 ?_
            refine lv_topE (y := 5) (by decide) ?_
            exact pm_iret hF dJ6_stringSize_0f7a4_30 (by rw [show sb_dg w = 5 from by unfold sb_dg; (repeat' split) <;> omega]; rfl)
        · have n_24''' := Int32.not_le.mp c_24'''
          have hs4 : w < 10000 := (sb_nlt (a := 10000) (b := w) (by decide) hw).mp n_24'''
          refine lv_iload_n hx hb dJ6_stringSize_0f7a4_27 rfl (lv_at hl 0 rfl) ?_
          refine lv_iload_n hx hb dJ6_stringSize_0f7a4_28 rfl (lv_at hl 3 rfl) ?_
          refine lv_iadd hx hb dJ6_stringSize_0f7a4_29 ?_
          refine lv_topE (y := 4) (by decide) ?_
          exact pm_iret hF dJ6_stringSize_0f7a4_30 (by rw [show sb_dg w = 4 from by unfold sb_dg; (repeat' split) <;> omega]; rfl)
      · have n_24'' := Int32.not_le.mp c_24''
        have hs3 : w < 1000 := (sb_nlt (a := 1000) (b := w) (by decide) hw).mp n_24''
        refine lv_iload_n hx hb dJ6_stringSize_0f7a4_27 rfl (lv_at hl 0 rfl) ?_
        refine lv_iload_n hx hb dJ6_stringSize_0f7a4_28 rfl (lv_at hl 3 rfl) ?_
        refine lv_iadd hx hb dJ6_stringSize_0f7a4_29 ?_
        refine lv_topE (y := 3) (by decide) ?_
        exact pm_iret hF dJ6_stringSize_0f7a4_30 (by rw [show sb_dg w = 3 from by unfold sb_dg; (repeat' split) <;> omega]; rfl)
    · have n_24' := Int32.not_le.mp c_24'
      have hs2 : w < 100 := (sb_nlt (a := 100) (b := w) (by decide) hw).mp n_24'
      refine lv_iload_n hx hb dJ6_stringSize_0f7a4_27 rfl (lv_at hl 0 rfl) ?_
      refine lv_iload_n hx hb dJ6_stringSize_0f7a4_28 rfl (lv_at hl 3 rfl) ?_
      refine lv_iadd hx hb dJ6_stringSize_0f7a4_29 ?_
      refine lv_topE (y := 2) (by decide) ?_
      exact pm_iret hF dJ6_stringSize_0f7a4_30 (by rw [show sb_dg w = 2 from by unfold sb_dg; (repeat' split) <;> omega]; rfl)
  · have n_24 := Int32.not_le.mp c_24
    have hs1 : w < 10 := (sb_nlt (a := 10) (b := w) (by decide) hw).mp n_24
    refine lv_iload_n hx hb dJ6_stringSize_0f7a4_27 rfl (lv_at hl 0 rfl) ?_
    refine lv_iload_n hx hb dJ6_stringSize_0f7a4_28 rfl (lv_at hl 3 rfl) ?_
    refine lv_iadd hx hb dJ6_stringSize_0f7a4_29 ?_
    refine lv_topE (y := 1) (by decide) ?_
    exact pm_iret hF dJ6_stringSize_0f7a4_30 (by rw [show sb_dg w = 1 from by unfold sb_dg; (repeat' split) <;> omega]; rfl)

set_option maxHeartbeats 4000000 in
set_option maxRecDepth 100000 in
theorem m_J6_getChars {X : Cx} {l : Launch} (h0 : Init X) {ow : Nat → Nat} {t a v n cap : Nat} {ml : Int32} {bs : Nat → Int32} {w P : Nat} (hw : w < 2 ^ 31) (hP : P = n + sb_dg w) (hPc : P ≤ cap) (hcap : cap ≤ 130) (hfit : sb_Fit bs) (hz : ∀ q, ow q = t → X.z ≤ q)  : MM X l yJ6_getChars_ba4f3 cJ6_getChars_ba4f3 7 (some .int) 0 0 0 0 [.int (nI w), .int (nI P), .ref v] (Tw X ow t (bfW X a v ml n cap bs)) (fun x H => (∃ r : Int32, x = some (.int r)) ∧ ∃ bs1 : Nat → Int32, Tw X ow t (bfW X a v ml n cap bs1) H ∧ sb_Fit bs1 ∧ ∀ j, j < n → bs1 j = bs j) (fun x => ow x = t) := by
  refine Met.mk (Bh := (Tw X ow t (bfW X a v ml n cap bs))) (by decide) (Nat.le_of_ble_eq_true rfl) ?_
  intro p e s m below meth c ls hF hB hl
  have hl : lv_has ls 7 [(0, .int (nI w)), (1, .int (nI P)), (2, .ref v)] := hl
  obtain ⟨hx, hb, hml, hr, hlk, hown, hG⟩ := id hF
  have hK := hG.K h0
  have hS : va_S (fun x => ow x = t) s.heap s.heap [] := va_S.rf
  have hAo : ∀ q, q < X.z → ¬ (fun x => ow x = t) q := fun q h9 (h8 : ow q = t) => absurd (hz q h8) (by omega)
  obtain ⟨d1, hd1, hd1T⟩ := doZ h0
  obtain ⟨d2, hd2, hd2T⟩ := dtZ h0
  have hd := sb_dg_in w
  refine lv_iload_n hx hb dJ6_getChars_ba4f3_0 rfl (lv_at hl 1 rfl) ?_
  refine lv_istore (lv' := [(5, .int (nI P)), (0, .int (nI w)), (1, .int (nI P)), (2, .ref v)]) hx hb dJ6_getChars_ba4f3_1 hl (by decide) rfl (fun ls hl => ?_)
  refine lv_iload_n hx hb dJ6_getChars_ba4f3_3 rfl (lv_at hl 1 rfl) ?_
  refine lv_if_ge (tgt := 11) hx hb dJ6_getChars_ba4f3_4 (by decide) (fun c_4 => ?_) (fun c_4 => absurd (nI_pos' hw) c_4)
  have n_4 := Int32.not_lt.mpr c_4
  refine lv_iconst (v := 0) hx hb dJ6_getChars_ba4f3_11 (by decide) ?_
  refine lv_istore (lv' := [(6, .int 0), (5, .int (nI P)), (0, .int (nI w)), (1, .int (nI P)), (2, .ref v)]) hx hb dJ6_getChars_ba4f3_12 hl (by decide) rfl (fun ls hl => ?_)
  refine lv_iload hx hb dJ6_getChars_ba4f3_14 (lv_at hl 0 rfl) ?_
  refine lv_if_ne (tgt := 22) hx hb dJ6_getChars_ba4f3_16 (by decide) (fun c_16 => absurd c_16 (by decide)) (fun c_16 => ?_)
  refine lv_iload_n hx hb dJ6_getChars_ba4f3_19 rfl (lv_at hl 2 rfl) ?_
  refine lv_ineg hx hb dJ6_getChars_ba4f3_20 ?_
  refine lv_topE (y := -nI w) (rfl) ?_
  refine lv_istore_n (lv' := [(0, .int (-nI w)), (6, .int 0), (5, .int (nI P)), (1, .int (nI P)), (2, .ref v)]) hx hb dJ6_getChars_ba4f3_21 rfl hl (by decide) rfl (fun ls hl => ?_)
  refine lv_iload_n hx hb dJ6_getChars_ba4f3_22 rfl (lv_at hl 0 rfl) ?_
  refine lv_bipush (v := (-100)) hx hb dJ6_getChars_ba4f3_23 (by decide) ?_
  refine lv_icmp_gt (tgt := 72) hx hb dJ6_getChars_ba4f3_25 (by decide) (fun c_25 => ?_) (fun c_25 => ?_)
  · have n_25 := Int32.not_le.mpr c_25
    have hw0 : w < 100 := (sb_nlt (a := 100) (b := w) (by decide) (by omega)).mp c_25
    refine lv_aload_n hx hb dJ6_getChars_ba4f3_72 rfl (lv_at hl 4 rfl) ?_
    refine lv_iinc (v := nI (P - 1)) (lv' := [(5, .int (nI (P - 1))), (0, .int (-nI w)), (6, .int 0), (1, .int (nI P)), (2, .ref v)]) hx hb dJ6_getChars_ba4f3_73 hl (k := 2) rfl (sb_m1 (by omega)) (by decide) rfl (fun ls hl => ?_)
    refine lv_iload hx hb dJ6_getChars_ba4f3_76 (lv_at hl 0 rfl) ?_
    refine va_gets hx hb (hG.Z hAo hd1) hS hown (hG.hts h0 _ _ wf_J6_83) (fun _ h9 => h9) dJ6_getChars_ba4f3_78 ?_
    refine lv_iload_n hx hb dJ6_getChars_ba4f3_81 rfl (lv_at hl 1 rfl) ?_
    refine lv_ineg hx hb dJ6_getChars_ba4f3_82 ?_
    refine lv_topE (y := nI w) (Int32.neg_neg) ?_
    refine va_tb hx hb (hG.T hAo hd1T) hS (i := nI w) (vp_in_nI (by omega) (by omega)) (v := .int (nI (48 + w % 10))) (by rw [nI_clamp (by omega)]) dJ6_getChars_ba4f3_83 ?_
    have htg := hB.tag 1 rfl
    refine g_bast hx hb hK hB hS (htg) 1 1 rfl rfl (P - 1) (rfl) (by omega) (by omega) (y := (nI (48 + w % 10)).toInt8.toInt32) (vp_nar_byte _) dJ6_getChars_ba4f3_84 (fun H locs oq hz1 hB' hS => ?_)
    have hB : Tw X ow t (bfW X a v ml n cap (upd bs (P - 1) ((nI (48 + w % 10)).toInt8.toInt32))) H := hB'
    refine lv_iload_n hx hb dJ6_getChars_ba4f3_85 rfl (lv_at hl 1 rfl) ?_
    refine lv_bipush (v := (-9)) hx hb dJ6_getChars_ba4f3_86 (by decide) ?_
    refine lv_icmp_ge (tgt := 104) hx hb dJ6_getChars_ba4f3_88 (by decide) (fun c_88 => ?_) (fun c_88 => ?_)
    · have n_88 := Int32.not_lt.mpr c_88
      have hw9 : w ≤ 9 := (sb_nle (a := 9) (b := w) (by decide) (by omega)).mp c_88
      refine lv_iload hx hb dJ6_getChars_ba4f3_104 (lv_at hl 2 rfl) ?_
      refine lv_if_eq (tgt := 118) hx hb dJ6_getChars_ba4f3_106 (by decide) (fun c_106 => ?_) (fun c_106 => absurd c_106 (by decide))
      refine lv_iload hx hb dJ6_getChars_ba4f3_118 (lv_at hl 0 rfl) ?_
      exact mm_iret hF hS dJ6_getChars_ba4f3_120 (⟨⟨_, rfl⟩, _, hB, by repeat (first | exact hfit | refine sb_fitU ?_ (pk_fb _)), fun j hj => by repeat (first | rfl | rw [pk_un (by omega)])⟩)
    · have n_88 := Int32.not_le.mp c_88
      have hw9 : 9 < w := (sb_nlt (a := w) (b := 9) (by omega) (by decide)).mp n_88
      have hd9 : sb_dg w = 2 := by unfold sb_dg; rw [if_neg (by omega), if_pos (by omega)]
      refine lv_aload_n hx hb dJ6_getChars_ba4f3_91 rfl (lv_at hl 4 rfl) ?_
      refine lv_iinc (v := nI (P - 1 - 1)) (lv' := [(5, .int (nI (P - 1 - 1))), (0, .int (-nI w)), (6, .int 0), (1, .int (nI P)), (2, .ref v)]) hx hb dJ6_getChars_ba4f3_92 hl (k := 0) rfl (sb_m1 (by omega)) (by decide) rfl (fun ls hl => ?_)
      refine lv_iload hx hb dJ6_getChars_ba4f3_95 (lv_at hl 0 rfl) ?_
      refine va_gets hx hb (hG.Z hAo hd2) hS hown (hG.hts h0 _ _ wf_J6_87) (fun _ h9 => h9) dJ6_getChars_ba4f3_97 ?_
      refine lv_iload_n hx hb dJ6_getChars_ba4f3_100 rfl (lv_at hl 1 rfl) ?_
      refine lv_ineg hx hb dJ6_getChars_ba4f3_101 ?_
      refine lv_topE (y := nI w) (Int32.neg_neg) ?_
      refine va_tb hx hb (hG.T hAo hd2T) hS (i := nI w) (vp_in_nI (by omega) (by omega)) (v := .int (nI (48 + w / 10))) (by rw [nI_clamp (by omega)]) dJ6_getChars_ba4f3_102 ?_
      have htg := hB.tag 1 rfl
      refine g_bast hx hb hK hB hS (htg) 1 1 rfl rfl (P - 1 - 1) (rfl) (by omega) (by omega) (y := (nI (48 + w / 10)).toInt8.toInt32) (vp_nar_byte _) dJ6_getChars_ba4f3_103 (fun H locs oq hz1 hB' hS => ?_)
      have hB : Tw X ow t (bfW X a v ml n cap (upd (upd bs (P - 1) ((nI (48 + w % 10)).toInt8.toInt32)) (P - 1 - 1) ((nI (48 + w / 10)).toInt8.toInt32))) H := hB'
      refine lv_iload hx hb dJ6_getChars_ba4f3_104 (lv_at hl 2 rfl) ?_
      refine lv_if_eq (tgt := 118) hx hb dJ6_getChars_ba4f3_106 (by decide) (fun c_106 => ?_) (fun c_106 => absurd c_106 (by decide))
      refine lv_iload hx hb dJ6_getChars_ba4f3_118 (lv_at hl 0 rfl) ?_
      exact mm_iret hF hS dJ6_getChars_ba4f3_120 (⟨⟨_, rfl⟩, _, hB, by repeat (first | exact hfit | refine sb_fitU ?_ (pk_fb _)), fun j hj => by repeat (first | rfl | rw [pk_un (by omega)])⟩)
  · have n_25 := Int32.not_lt.mp c_25
    have hw0 : 100 ≤ w := (sb_nle (a := w) (b := 100) (by omega) (by decide)).mp n_25
    have hd0a := sb_dg100 (w := w) hw0 (by omega)
    have hd0b := sb_dg_in (w / 100)
    refine lv_iload_n hx hb dJ6_getChars_ba4f3_28 rfl (lv_at hl 0 rfl) ?_
    refine lv_bipush (v := 100) hx hb dJ6_getChars_ba4f3_29 (by decide) ?_
    refine lv_idiv hx hb dJ6_getChars_ba4f3_31 (by decide) ?_
    refine lv_topE (y := -nI (w / 100)) (sb_ndiv (by omega)) ?_
    refine lv_istore_n (lv' := [(3, .int (-nI (w / 100))), (0, .int (-nI w)), (6, .int 0), (5, .int (nI P)), (1, .int (nI P)), (2, .ref v)]) hx hb dJ6_getChars_ba4f3_32 rfl hl (by decide) rfl (fun ls hl => ?_)
    refine lv_iload_n hx hb dJ6_getChars_ba4f3_33 rfl (lv_at hl 0 rfl) ?_
    refine lv_bipush (v := 100) hx hb dJ6_getChars_ba4f3_34 (by decide) ?_
    refine lv_imul hx hb dJ6_getChars_ba4f3_36 ?_
    refine lv_iload_n hx hb dJ6_getChars_ba4f3_37 rfl (lv_at hl 1 rfl) ?_
    refine lv_isub hx hb dJ6_getChars_ba4f3_38 ?_
    refine lv_topE (y := nI (w % 100)) (sb_nrem (by omega)) ?_
    refine lv_istore (lv' := [(4, .int (nI (w % 100))), (3, .int (-nI (w / 100))), (0, .int (-nI w)), (6, .int 0), (5, .int (nI P)), (1, .int (nI P)), (2, .ref v)]) hx hb dJ6_getChars_ba4f3_39 hl (by decide) rfl (fun ls hl => ?_)
    refine lv_iload_n hx hb dJ6_getChars_ba4f3_41 rfl (lv_at hl 1 rfl) ?_
    refine lv_istore_n (lv' := [(0, .int (-nI (w / 100))), (4, .int (nI (w % 100))), (3, .int (-nI (w / 100))), (6, .int 0), (5, .int (nI P)), (1, .int (nI P)), (2, .ref v)]) hx hb dJ6_getChars_ba4f3_42 rfl hl (by decide) rfl (fun ls hl => ?_)
    refine lv_aload_n hx hb dJ6_getChars_ba4f3_43 rfl (lv_at hl 6 rfl) ?_
    refine lv_iinc (v := nI (P - 1)) (lv' := [(5, .int (nI (P - 1))), (0, .int (-nI (w / 100))), (4, .int (nI (w % 100))), (3, .int (-nI (w / 100))), (6, .int 0), (1, .int (nI P)), (2, .ref v)]) hx hb dJ6_getChars_ba4f3_44 hl (k := 4) rfl (sb_m1 (by omega)) (by decide) rfl (fun ls hl => ?_)
    refine lv_iload hx hb dJ6_getChars_ba4f3_47 (lv_at hl 0 rfl) ?_
    refine va_gets hx hb (hG.Z hAo hd1) hS hown (hG.hts h0 _ _ wf_J6_83) (fun _ h9 => h9) dJ6_getChars_ba4f3_49 ?_
    refine lv_iload hx hb dJ6_getChars_ba4f3_52 (lv_at hl 2 rfl) ?_
    refine va_tb hx hb (hG.T hAo hd1T) hS (i := nI (w % 100)) (vp_in_nI (by omega) (by omega)) (v := .int (nI (48 + (w % 100) % 10))) (by rw [nI_clamp (by omega)]) dJ6_getChars_ba4f3_54 ?_
    have htg := hB.tag 1 rfl
    refine g_bast hx hb hK hB hS (htg) 1 1 rfl rfl (P - 1) (rfl) (by omega) (by omega) (y := (nI (48 + (w % 100) % 10)).toInt8.toInt32) (vp_nar_byte _) dJ6_getChars_ba4f3_55 (fun H locs oq hz1 hB' hS => ?_)
    have hB : Tw X ow t (bfW X a v ml n cap (upd bs (P - 1) ((nI (48 + (w % 100) % 10)).toInt8.toInt32))) H := hB'
    refine lv_aload_n hx hb dJ6_getChars_ba4f3_56 rfl (lv_at hl 6 rfl) ?_
    refine lv_iinc (v := nI (P - 1 - 1)) (lv' := [(5, .int (nI (P - 1 - 1))), (0, .int (-nI (w / 100))), (4, .int (nI (w % 100))), (3, .int (-nI (w / 100))), (6, .int 0), (1, .int (nI P)), (2, .ref v)]) hx hb dJ6_getChars_ba4f3_57 hl (k := 0) rfl (sb_m1 (by omega)) (by decide) rfl (fun ls hl => ?_)
    refine lv_iload hx hb dJ6_getChars_ba4f3_60 (lv_at hl 0 rfl) ?_
    refine va_gets hx hb (hG.Z hAo hd2) hS hown (hG.hts h0 _ _ wf_J6_87) (fun _ h9 => h9) dJ6_getChars_ba4f3_62 ?_
    refine lv_iload hx hb dJ6_getChars_ba4f3_65 (lv_at hl 2 rfl) ?_
    refine va_tb hx hb (hG.T hAo hd2T) hS (i := nI (w % 100)) (vp_in_nI (by omega) (by omega)) (v := .int (nI (48 + (w % 100) / 10))) (by rw [nI_clamp (by omega)]) dJ6_getChars_ba4f3_67 ?_
    have htg := hB.tag 1 rfl
    refine g_bast hx hb hK hB hS (htg) 1 1 rfl rfl (P - 1 - 1) (rfl) (by omega) (by omega) (y := (nI (48 + (w % 100) / 10)).toInt8.toInt32) (vp_nar_byte _) dJ6_getChars_ba4f3_68 (fun H locs oq hz1 hB' hS => ?_)
    have hB : Tw X ow t (bfW X a v ml n cap (upd (upd bs (P - 1) ((nI (48 + (w % 100) % 10)).toInt8.toInt32)) (P - 1 - 1) ((nI (48 + (w % 100) / 10)).toInt8.toInt32))) H := hB'
    refine lv_goto (tgt := 22) hx hb dJ6_getChars_ba4f3_69 (by decide) ?_
    refine lv_iload_n hx hb dJ6_getChars_ba4f3_22 rfl (lv_at hl 1 rfl) ?_
    refine lv_bipush (v := (-100)) hx hb dJ6_getChars_ba4f3_23 (by decide) ?_
    refine lv_icmp_gt (tgt := 72) hx hb dJ6_getChars_ba4f3_25 (by decide) (fun c_25' => ?_) (fun c_25' => ?_)
    · have n_25' := Int32.not_le.mpr c_25'
      have hw1 : (w / 100) < 100 := (sb_nlt (a := 100) (b := (w / 100)) (by decide) (by omega)).mp c_25'
      refine lv_aload_n hx hb dJ6_getChars_ba4f3_72 rfl (lv_at hl 6 rfl) ?_
      refine lv_iinc (v := nI (P - 1 - 1 - 1)) (lv' := [(5, .int (nI (P - 1 - 1 - 1))), (0, .int (-nI (w / 100))), (4, .int (nI (w % 100))), (3, .int (-nI (w / 100))), (6, .int 0), (1, .int (nI P)), (2, .ref v)]) hx hb dJ6_getChars_ba4f3_73 hl (k := 0) rfl (sb_m1 (by omega)) (by decide) rfl (fun ls hl => ?_)
      refine lv_iload hx hb dJ6_getChars_ba4f3_76 (lv_at hl 0 rfl) ?_
      refine va_gets hx hb (hG.Z hAo hd1) hS hown (hG.hts h0 _ _ wf_J6_83) (fun _ h9 => h9) dJ6_getChars_ba4f3_78 ?_
      refine lv_iload_n hx hb dJ6_getChars_ba4f3_81 rfl (lv_at hl 1 rfl) ?_
      refine lv_ineg hx hb dJ6_getChars_ba4f3_82 ?_
      refine lv_topE (y := nI (w / 100)) (Int32.neg_neg) ?_
      refine va_tb hx hb (hG.T hAo hd1T) hS (i := nI (w / 100)) (vp_in_nI (by omega) (by omega)) (v := .int (nI (48 + (w / 100) % 10))) (by rw [nI_clamp (by omega)]) dJ6_getChars_ba4f3_83 ?_
      have htg := hB.tag 1 rfl
      refine g_bast hx hb hK hB hS (htg) 1 1 rfl rfl (P - 1 - 1 - 1) (rfl) (by omega) (by omega) (y := (nI (48 + (w / 100) % 10)).toInt8.toInt32) (vp_nar_byte _) dJ6_getChars_ba4f3_84 (fun H locs oq hz1 hB' hS => ?_)
      have hB : Tw X ow t (bfW X a v ml n cap (upd (upd (upd bs (P - 1) ((nI (48 + (w % 100) % 10)).toInt8.toInt32)) (P - 1 - 1) ((nI (48 + (w % 100) / 10)).toInt8.toInt32)) (P - 1 - 1 - 1) ((nI (48 + (w / 100) % 10)).toInt8.toInt32))) H := hB'
      refine lv_iload_n hx hb dJ6_getChars_ba4f3_85 rfl (lv_at hl 1 rfl) ?_
      refine lv_bipush (v := (-9)) hx hb dJ6_getChars_ba4f3_86 (by decide) ?_
      refine lv_icmp_ge (tgt := 104) hx hb dJ6_getChars_ba4f3_88 (by decide) (fun c_88 => ?_) (fun c_88 => ?_)
      · have n_88 := Int32.not_lt.mpr c_88
        have hw9 : (w / 100) ≤ 9 := (sb_nle (a := 9) (b := (w / 100)) (by decide) (by omega)).mp c_88
        refine lv_iload hx hb dJ6_getChars_ba4f3_104 (lv_at hl 4 rfl) ?_
        refine lv_if_eq (tgt := 118) hx hb dJ6_getChars_ba4f3_106 (by decide) (fun c_106 => ?_) (fun c_106 => absurd c_106 (by decide))
        refine lv_iload hx hb dJ6_getChars_ba4f3_118 (lv_at hl 0 rfl) ?_
        exact mm_iret hF hS dJ6_getChars_ba4f3_120 (⟨⟨_, rfl⟩, _, hB, by repeat (first | exact hfit | refine sb_fitU ?_ (pk_fb _)), fun j hj => by repeat (first | rfl | rw [pk_un (by omega)])⟩)
      · have n_88 := Int32.not_le.mp c_88
        have hw9 : 9 < (w / 100) := (sb_nlt (a := (w / 100)) (b := 9) (by omega) (by decide)).mp n_88
        have hd9 : sb_dg (w / 100) = 2 := by unfold sb_dg; rw [if_neg (by omega), if_pos (by omega)]
        refine lv_aload_n hx hb dJ6_getChars_ba4f3_91 rfl (lv_at hl 6 rfl) ?_
        refine lv_iinc (v := nI (P - 1 - 1 - 1 - 1)) (lv' := [(5, .int (nI (P - 1 - 1 - 1 - 1))), (0, .int (-nI (w / 100))), (4, .int (nI (w % 100))), (3, .int (-nI (w / 100))), (6, .int 0), (1, .int (nI P)), (2, .ref v)]) hx hb dJ6_getChars_ba4f3_92 hl (k := 0) rfl (sb_m1 (by omega)) (by decide) rfl (fun ls hl => ?_)
        refine lv_iload hx hb dJ6_getChars_ba4f3_95 (lv_at hl 0 rfl) ?_
        refine va_gets hx hb (hG.Z hAo hd2) hS hown (hG.hts h0 _ _ wf_J6_87) (fun _ h9 => h9) dJ6_getChars_ba4f3_97 ?_
        refine lv_iload_n hx hb dJ6_getChars_ba4f3_100 rfl (lv_at hl 1 rfl) ?_
        refine lv_ineg hx hb dJ6_getChars_ba4f3_101 ?_
        refine lv_topE (y := nI (w / 100)) (Int32.neg_neg) ?_
        refine va_tb hx hb (hG.T hAo hd2T) hS (i := nI (w / 100)) (vp_in_nI (by omega) (by omega)) (v := .int (nI (48 + (w / 100) / 10))) (by rw [nI_clamp (by omega)]) dJ6_getChars_ba4f3_102 ?_
        have htg := hB.tag 1 rfl
        refine g_bast hx hb hK hB hS (htg) 1 1 rfl rfl (P - 1 - 1 - 1 - 1) (rfl) (by omega) (by omega) (y := (nI (48 + (w / 100) / 10)).toInt8.toInt32) (vp_nar_byte _) dJ6_getChars_ba4f3_103 (fun H locs oq hz1 hB' hS => ?_)
        have hB : Tw X ow t (bfW X a v ml n cap (upd (upd (upd (upd bs (P - 1) ((nI (48 + (w % 100) % 10)).toInt8.toInt32)) (P - 1 - 1) ((nI (48 + (w % 100) / 10)).toInt8.toInt32)) (P - 1 - 1 - 1) ((nI (48 + (w / 100) % 10)).toInt8.toInt32)) (P - 1 - 1 - 1 - 1) ((nI (48 + (w / 100) / 10)).toInt8.toInt32))) H := hB'
        refine lv_iload hx hb dJ6_getChars_ba4f3_104 (lv_at hl 4 rfl) ?_
        refine lv_if_eq (tgt := 118) hx hb dJ6_getChars_ba4f3_106 (by decide) (fun c_106 => ?_) (fun c_106 => absurd c_106 (by decide))
        refine lv_iload hx hb dJ6_getChars_ba4f3_118 (lv_at hl 0 rfl) ?_
        exact mm_iret hF hS dJ6_getChars_ba4f3_120 (⟨⟨_, rfl⟩, _, hB, by repeat (first | exact hfit | refine sb_fitU ?_ (pk_fb _)), fun j hj => by repeat (first | rfl | rw [pk_un (by omega)])⟩)
    · have n_25' := Int32.not_lt.mp c_25'
      have hw1 : 100 ≤ (w / 100) := (sb_nle (a := (w / 100)) (b := 100) (by omega) (by decide)).mp n_25'
      have hd1a := sb_dg100 (w := (w / 100)) hw1 (by omega)
      have hd1b := sb_dg_in ((w / 100) / 100)
      refine lv_iload_n hx hb dJ6_getChars_ba4f3_28 rfl (lv_at hl 1 rfl) ?_
      refine lv_bipush (v := 100) hx hb dJ6_getChars_ba4f3_29 (by decide) ?_
      refine lv_idiv hx hb dJ6_getChars_ba4f3_31 (by decide) ?_
      refine lv_topE (y := -nI ((w / 100) / 100)) (sb_ndiv (by omega)) ?_
      refine lv_istore_n (lv' := [(3, .int (-nI ((w / 100) / 100))), (5, .int (nI (P - 1 - 1))), (0, .int (-nI (w / 100))), (4, .int (nI (w % 100))), (6, .int 0), (1, .int (nI P)), (2, .ref v)]) hx hb dJ6_getChars_ba4f3_32 rfl hl (by decide) rfl (fun ls hl => ?_)
      refine lv_iload_n hx hb dJ6_getChars_ba4f3_33 rfl (lv_at hl 0 rfl) ?_
      refine lv_bipush (v := 100) hx hb dJ6_getChars_ba4f3_34 (by decide) ?_
      refine lv_imul hx hb dJ6_getChars_ba4f3_36 ?_
      refine lv_iload_n hx hb dJ6_getChars_ba4f3_37 rfl (lv_at hl 2 rfl) ?_
      refine lv_isub hx hb dJ6_getChars_ba4f3_38 ?_
      refine lv_topE (y := nI ((w / 100) % 100)) (sb_nrem (by omega)) ?_
      refine lv_istore (lv' := [(4, .int (nI ((w / 100) % 100))), (3, .int (-nI ((w / 100) / 100))), (5, .int (nI (P - 1 - 1))), (0, .int (-nI (w / 100))), (6, .int 0), (1, .int (nI P)), (2, .ref v)]) hx hb dJ6_getChars_ba4f3_39 hl (by decide) rfl (fun ls hl => ?_)
      refine lv_iload_n hx hb dJ6_getChars_ba4f3_41 rfl (lv_at hl 1 rfl) ?_
      refine lv_istore_n (lv' := [(0, .int (-nI ((w / 100) / 100))), (4, .int (nI ((w / 100) % 100))), (3, .int (-nI ((w / 100) / 100))), (5, .int (nI (P - 1 - 1))), (6, .int 0), (1, .int (nI P)), (2, .ref v)]) hx hb dJ6_getChars_ba4f3_42 rfl hl (by decide) rfl (fun ls hl => ?_)
      refine lv_aload_n hx hb dJ6_getChars_ba4f3_43 rfl (lv_at hl 6 rfl) ?_
      refine lv_iinc (v := nI (P - 1 - 1 - 1)) (lv' := [(5, .int (nI (P - 1 - 1 - 1))), (0, .int (-nI ((w / 100) / 100))), (4, .int (nI ((w / 100) % 100))), (3, .int (-nI ((w / 100) / 100))), (6, .int 0), (1, .int (nI P)), (2, .ref v)]) hx hb dJ6_getChars_ba4f3_44 hl (k := 3) rfl (sb_m1 (by omega)) (by decide) rfl (fun ls hl => ?_)
      refine lv_iload hx hb dJ6_getChars_ba4f3_47 (lv_at hl 0 rfl) ?_
      refine va_gets hx hb (hG.Z hAo hd1) hS hown (hG.hts h0 _ _ wf_J6_83) (fun _ h9 => h9) dJ6_getChars_ba4f3_49 ?_
      refine lv_iload hx hb dJ6_getChars_ba4f3_52 (lv_at hl 2 rfl) ?_
      refine va_tb hx hb (hG.T hAo hd1T) hS (i := nI ((w / 100) % 100)) (vp_in_nI (by omega) (by omega)) (v := .int (nI (48 + ((w / 100) % 100) % 10))) (by rw [nI_clamp (by omega)]) dJ6_getChars_ba4f3_54 ?_
      have htg := hB.tag 1 rfl
      refine g_bast hx hb hK hB hS (htg) 1 1 rfl rfl (P - 1 - 1 - 1) (rfl) (by omega) (by omega) (y := (nI (48 + ((w / 100) % 100) % 10)).toInt8.toInt32) (vp_nar_byte _) dJ6_getChars_ba4f3_55 (fun H locs oq hz1 hB' hS => ?_)
      have hB : Tw X ow t (bfW X a v ml n cap (upd (upd (upd bs (P - 1) ((nI (48 + (w % 100) % 10)).toInt8.toInt32)) (P - 1 - 1) ((nI (48 + (w % 100) / 10)).toInt8.toInt32)) (P - 1 - 1 - 1) ((nI (48 + ((w / 100) % 100) % 10)).toInt8.toInt32))) H := hB'
      refine lv_aload_n hx hb dJ6_getChars_ba4f3_56 rfl (lv_at hl 6 rfl) ?_
      refine lv_iinc (v := nI (P - 1 - 1 - 1 - 1)) (lv' := [(5, .int (nI (P - 1 - 1 - 1 - 1))), (0, .int (-nI ((w / 100) / 100))), (4, .int (nI ((w / 100) % 100))), (3, .int (-nI ((w / 100) / 100))), (6, .int 0), (1, .int (nI P)), (2, .ref v)]) hx hb dJ6_getChars_ba4f3_57 hl (k := 0) rfl (sb_m1 (by omega)) (by decide) rfl (fun ls hl => ?_)
      refine lv_iload hx hb dJ6_getChars_ba4f3_60 (lv_at hl 0 rfl) ?_
      refine va_gets hx hb (hG.Z hAo hd2) hS hown (hG.hts h0 _ _ wf_J6_87) (fun _ h9 => h9) dJ6_getChars_ba4f3_62 ?_
      refine lv_iload hx hb dJ6_getChars_ba4f3_65 (lv_at hl 2 rfl) ?_
      refine va_tb hx hb (hG.T hAo hd2T) hS (i := nI ((w / 100) % 100)) (vp_in_nI (by omega) (by omega)) (v := .int (nI (48 + ((w / 100) % 100) / 10))) (by rw [nI_clamp (by omega)]) dJ6_getChars_ba4f3_67 ?_
      have htg := hB.tag 1 rfl
      refine g_bast hx hb hK hB hS (htg) 1 1 rfl rfl (P - 1 - 1 - 1 - 1) (rfl) (by omega) (by omega) (y := (nI (48 + ((w / 100) % 100) / 10)).toInt8.toInt32) (vp_nar_byte _) dJ6_getChars_ba4f3_68 (fun H locs oq hz1 hB' hS => ?_)
      have hB : Tw X ow t (bfW X a v ml n cap (upd (upd (upd (upd bs (P - 1) ((nI (48 + (w % 100) % 10)).toInt8.toInt32)) (P - 1 - 1) ((nI (48 + (w % 100) / 10)).toInt8.toInt32)) (P - 1 - 1 - 1) ((nI (48 + ((w / 100) % 100) % 10)).toInt8.toInt32)) (P - 1 - 1 - 1 - 1) ((nI (48 + ((w / 100) % 100) / 10)).toInt8.toInt32))) H := hB'
      refine lv_goto (tgt := 22) hx hb dJ6_getChars_ba4f3_69 (by decide) ?_
      refine lv_iload_n hx hb dJ6_getChars_ba4f3_22 rfl (lv_at hl 1 rfl) ?_
      refine lv_bipush (v := (-100)) hx hb dJ6_getChars_ba4f3_23 (by decide) ?_
      refine lv_icmp_gt (tgt := 72) hx hb dJ6_getChars_ba4f3_25 (by decide) (fun c_25'' => ?_) (fun c_25'' => ?_)
      · have n_25'' := Int32.not_le.mpr c_25''
        have hw2 : ((w / 100) / 100) < 100 := (sb_nlt (a := 100) (b := ((w / 100) / 100)) (by decide) (by omega)).mp c_25''
        refine lv_aload_n hx hb dJ6_getChars_ba4f3_72 rfl (lv_at hl 6 rfl) ?_
        refine lv_iinc (v := nI (P - 1 - 1 - 1 - 1 - 1)) (lv' := [(5, .int (nI (P - 1 - 1 - 1 - 1 - 1))), (0, .int (-nI ((w / 100) / 100))), (4, .int (nI ((w / 100) % 100))), (3, .int (-nI ((w / 100) / 100))), (6, .int 0), (1, .int (nI P)), (2, .ref v)]) hx hb dJ6_getChars_ba4f3_73 hl (k := 0) rfl (sb_m1 (by omega)) (by decide) rfl (fun ls hl => ?_)
        refine lv_iload hx hb dJ6_getChars_ba4f3_76 (lv_at hl 0 rfl) ?_
        refine va_gets hx hb (hG.Z hAo hd1) hS hown (hG.hts h0 _ _ wf_J6_83) (fun _ h9 => h9) dJ6_getChars_ba4f3_78 ?_
        refine lv_iload_n hx hb dJ6_getChars_ba4f3_81 rfl (lv_at hl 1 rfl) ?_
        refine lv_ineg hx hb dJ6_getChars_ba4f3_82 ?_
        refine lv_topE (y := nI ((w / 100) / 100)) (Int32.neg_neg) ?_
        refine va_tb hx hb (hG.T hAo hd1T) hS (i := nI ((w / 100) / 100)) (vp_in_nI (by omega) (by omega)) (v := .int (nI (48 + ((w / 100) / 100) % 10))) (by rw [nI_clamp (by omega)]) dJ6_getChars_ba4f3_83 ?_
        have htg := hB.tag 1 rfl
        refine g_bast hx hb hK hB hS (htg) 1 1 rfl rfl (P - 1 - 1 - 1 - 1 - 1) (rfl) (by omega) (by omega) (y := (nI (48 + ((w / 100) / 100) % 10)).toInt8.toInt32) (vp_nar_byte _) dJ6_getChars_ba4f3_84 (fun H locs oq hz1 hB' hS => ?_)
        have hB : Tw X ow t (bfW X a v ml n cap (upd (upd (upd (upd (upd bs (P - 1) ((nI (48 + (w % 100) % 10)).toInt8.toInt32)) (P - 1 - 1) ((nI (48 + (w % 100) / 10)).toInt8.toInt32)) (P - 1 - 1 - 1) ((nI (48 + ((w / 100) % 100) % 10)).toInt8.toInt32)) (P - 1 - 1 - 1 - 1) ((nI (48 + ((w / 100) % 100) / 10)).toInt8.toInt32)) (P - 1 - 1 - 1 - 1 - 1) ((nI (48 + ((w / 100) / 100) % 10)).toInt8.toInt32))) H := hB'
        refine lv_iload_n hx hb dJ6_getChars_ba4f3_85 rfl (lv_at hl 1 rfl) ?_
        refine lv_bipush (v := (-9)) hx hb dJ6_getChars_ba4f3_86 (by decide) ?_
        refine lv_icmp_ge (tgt := 104) hx hb dJ6_getChars_ba4f3_88 (by decide) (fun c_88 => ?_) (fun c_88 => ?_)
        · have n_88 := Int32.not_lt.mpr c_88
          have hw9 : ((w / 100) / 100) ≤ 9 := (sb_nle (a := 9) (b := ((w / 100) / 100)) (by decide) (by omega)).mp c_88
          refine lv_iload hx hb dJ6_getChars_ba4f3_104 (lv_at hl 4 rfl) ?_
          refine lv_if_eq (tgt := 118) hx hb dJ6_getChars_ba4f3_106 (by decide) (fun c_106 => ?_) (fun c_106 => absurd c_106 (by decide))
          refine lv_iload hx hb dJ6_getChars_ba4f3_118 (lv_at hl 0 rfl) ?_
          exact mm_iret hF hS dJ6_getChars_ba4f3_120 (⟨⟨_, rfl⟩, _, hB, by repeat (first | exact hfit | refine sb_fitU ?_ (pk_fb _)), fun j hj => by repeat (first | rfl | rw [pk_un (by omega)])⟩)
        · have n_88 := Int32.not_le.mp c_88
          have hw9 : 9 < ((w / 100) / 100) := (sb_nlt (a := ((w / 100) / 100)) (b := 9) (by omega) (by decide)).mp n_88
          have hd9 : sb_dg ((w / 100) / 100) = 2 := by unfold sb_dg; rw [if_neg (by omega), if_pos (by omega)]
          refine lv_aload_n hx hb dJ6_getChars_ba4f3_91 rfl (lv_at hl 6 rfl) ?_
          refine lv_iinc (v := nI (P - 1 - 1 - 1 - 1 - 1 - 1)) (lv' := [(5, .int (nI (P - 1 - 1 - 1 - 1 - 1 - 1))), (0, .int (-nI ((w / 100) / 100))), (4, .int (nI ((w / 100) % 100))), (3, .int (-nI ((w / 100) / 100))), (6, .int 0), (1, .int (nI P)), (2, .ref v)]) hx hb dJ6_getChars_ba4f3_92 hl (k := 0) rfl (sb_m1 (by omega)) (by decide) rfl (fun ls hl => ?_)
          refine lv_iload hx hb dJ6_getChars_ba4f3_95 (lv_at hl 0 rfl) ?_
          refine va_gets hx hb (hG.Z hAo hd2) hS hown (hG.hts h0 _ _ wf_J6_87) (fun _ h9 => h9) dJ6_getChars_ba4f3_97 ?_
          refine lv_iload_n hx hb dJ6_getChars_ba4f3_100 rfl (lv_at hl 1 rfl) ?_
          refine lv_ineg hx hb dJ6_getChars_ba4f3_101 ?_
          refine lv_topE (y := nI ((w / 100) / 100)) (Int32.neg_neg) ?_
          refine va_tb hx hb (hG.T hAo hd2T) hS (i := nI ((w / 100) / 100)) (vp_in_nI (by omega) (by omega)) (v := .int (nI (48 + ((w / 100) / 100) / 10))) (by rw [nI_clamp (by omega)]) dJ6_getChars_ba4f3_102 ?_
          have htg := hB.tag 1 rfl
          refine g_bast hx hb hK hB hS (htg) 1 1 rfl rfl (P - 1 - 1 - 1 - 1 - 1 - 1) (rfl) (by omega) (by omega) (y := (nI (48 + ((w / 100) / 100) / 10)).toInt8.toInt32) (vp_nar_byte _) dJ6_getChars_ba4f3_103 (fun H locs oq hz1 hB' hS => ?_)
          have hB : Tw X ow t (bfW X a v ml n cap (upd (upd (upd (upd (upd (upd bs (P - 1) ((nI (48 + (w % 100) % 10)).toInt8.toInt32)) (P - 1 - 1) ((nI (48 + (w % 100) / 10)).toInt8.toInt32)) (P - 1 - 1 - 1) ((nI (48 + ((w / 100) % 100) % 10)).toInt8.toInt32)) (P - 1 - 1 - 1 - 1) ((nI (48 + ((w / 100) % 100) / 10)).toInt8.toInt32)) (P - 1 - 1 - 1 - 1 - 1) ((nI (48 + ((w / 100) / 100) % 10)).toInt8.toInt32)) (P - 1 - 1 - 1 - 1 - 1 - 1) ((nI (48 + ((w / 100) / 100) / 10)).toInt8.toInt32))) H := hB'
          refine lv_iload hx hb dJ6_getChars_ba4f3_104 (lv_at hl 4 rfl) ?_
          refine lv_if_eq (tgt := 118) hx hb dJ6_getChars_ba4f3_106 (by decide) (fun c_106 => ?_) (fun c_106 => absurd c_106 (by decide))
          refine lv_iload hx hb dJ6_getChars_ba4f3_118 (lv_at hl 0 rfl) ?_
          exact mm_iret hF hS dJ6_getChars_ba4f3_120 (⟨⟨_, rfl⟩, _, hB, by repeat (first | exact hfit | refine sb_fitU ?_ (pk_fb _)), fun j hj => by repeat (first | rfl | rw [pk_un (by omega)])⟩)
      · have n_25'' := Int32.not_lt.mp c_25''
        have hw2 : 100 ≤ ((w / 100) / 100) := (sb_nle (a := ((w / 100) / 100)) (b := 100) (by omega) (by decide)).mp n_25''
        have hd2a := sb_dg100 (w := ((w / 100) / 100)) hw2 (by omega)
        have hd2b := sb_dg_in (((w / 100) / 100) / 100)
        refine lv_iload_n hx hb dJ6_getChars_ba4f3_28 rfl (lv_at hl 1 rfl) ?_
        refine lv_bipush (v := 100) hx hb dJ6_getChars_ba4f3_29 (by decide) ?_
        refine lv_idiv hx hb dJ6_getChars_ba4f3_31 (by decide) ?_
        refine lv_topE (y := -nI (((w / 100) / 100) / 100)) (sb_ndiv (by omega)) ?_
        refine lv_istore_n (lv' := [(3, .int (-nI (((w / 100) / 100) / 100))), (5, .int (nI (P - 1 - 1 - 1 - 1))), (0, .int (-nI ((w / 100) / 100))), (4, .int (nI ((w / 100) % 100))), (6, .int 0), (1, .int (nI P)), (2, .ref v)]) hx hb dJ6_getChars_ba4f3_32 rfl hl (by decide) rfl (fun ls hl => ?_)
        refine lv_iload_n hx hb dJ6_getChars_ba4f3_33 rfl (lv_at hl 0 rfl) ?_
        refine lv_bipush (v := 100) hx hb dJ6_getChars_ba4f3_34 (by decide) ?_
        refine lv_imul hx hb dJ6_getChars_ba4f3_36 ?_
        refine lv_iload_n hx hb dJ6_getChars_ba4f3_37 rfl (lv_at hl 2 rfl) ?_
        refine lv_isub hx hb dJ6_getChars_ba4f3_38 ?_
        refine lv_topE (y := nI (((w / 100) / 100) % 100)) (sb_nrem (by omega)) ?_
        refine lv_istore (lv' := [(4, .int (nI (((w / 100) / 100) % 100))), (3, .int (-nI (((w / 100) / 100) / 100))), (5, .int (nI (P - 1 - 1 - 1 - 1))), (0, .int (-nI ((w / 100) / 100))), (6, .int 0), (1, .int (nI P)), (2, .ref v)]) hx hb dJ6_getChars_ba4f3_39 hl (by decide) rfl (fun ls hl => ?_)
        refine lv_iload_n hx hb dJ6_getChars_ba4f3_41 rfl (lv_at hl 1 rfl) ?_
        refine lv_istore_n (lv' := [(0, .int (-nI (((w / 100) / 100) / 100))), (4, .int (nI (((w / 100) / 100) % 100))), (3, .int (-nI (((w / 100) / 100) / 100))), (5, .int (nI (P - 1 - 1 - 1 - 1))), (6, .int 0), (1, .int (nI P)), (2, .ref v)]) hx hb dJ6_getChars_ba4f3_42 rfl hl (by decide) rfl (fun ls hl => ?_)
        refine lv_aload_n hx hb dJ6_getChars_ba4f3_43 rfl (lv_at hl 6 rfl) ?_
        refine lv_iinc (v := nI (P - 1 - 1 - 1 - 1 - 1)) (lv' := [(5, .int (nI (P - 1 - 1 - 1 - 1 - 1))), (0, .int (-nI (((w / 100) / 100) / 100))), (4, .int (nI (((w / 100) / 100) % 100))), (3, .int (-nI (((w / 100) / 100) / 100))), (6, .int 0), (1, .int (nI P)), (2, .ref v)]) hx hb dJ6_getChars_ba4f3_44 hl (k := 3) rfl (sb_m1 (by omega)) (by decide) rfl (fun ls hl => ?_)
        refine lv_iload hx hb dJ6_getChars_ba4f3_47 (lv_at hl 0 rfl) ?_
        refine va_gets hx hb (hG.Z hAo hd1) hS hown (hG.hts h0 _ _ wf_J6_83) (fun _ h9 => h9) dJ6_getChars_ba4f3_49 ?_
        refine lv_iload hx hb dJ6_getChars_ba4f3_52 (lv_at hl 2 rfl) ?_
        refine va_tb hx hb (hG.T hAo hd1T) hS (i := nI (((w / 100) / 100) % 100)) (vp_in_nI (by omega) (by omega)) (v := .int (nI (48 + (((w / 100) / 100) % 100) % 10))) (by rw [nI_clamp (by omega)]) dJ6_getChars_ba4f3_54 ?_
        have htg := hB.tag 1 rfl
        refine g_bast hx hb hK hB hS (htg) 1 1 rfl rfl (P - 1 - 1 - 1 - 1 - 1) (rfl) (by omega) (by omega) (y := (nI (48 + (((w / 100) / 100) % 100) % 10)).toInt8.toInt32) (vp_nar_byte _) dJ6_getChars_ba4f3_55 (fun H locs oq hz1 hB' hS => ?_)
        have hB : Tw X ow t (bfW X a v ml n cap (upd (upd (upd (upd (upd bs (P - 1) ((nI (48 + (w % 100) % 10)).toInt8.toInt32)) (P - 1 - 1) ((nI (48 + (w % 100) / 10)).toInt8.toInt32)) (P - 1 - 1 - 1) ((nI (48 + ((w / 100) % 100) % 10)).toInt8.toInt32)) (P - 1 - 1 - 1 - 1) ((nI (48 + ((w / 100) % 100) / 10)).toInt8.toInt32)) (P - 1 - 1 - 1 - 1 - 1) ((nI (48 + (((w / 100) / 100) % 100) % 10)).toInt8.toInt32))) H := hB'
        refine lv_aload_n hx hb dJ6_getChars_ba4f3_56 rfl (lv_at hl 6 rfl) ?_
        refine lv_iinc (v := nI (P - 1 - 1 - 1 - 1 - 1 - 1)) (lv' := [(5, .int (nI (P - 1 - 1 - 1 - 1 - 1 - 1))), (0, .int (-nI (((w / 100) / 100) / 100))), (4, .int (nI (((w / 100) / 100) % 100))), (3, .int (-nI (((w / 100) / 100) / 100))), (6, .int 0), (1, .int (nI P)), (2, .ref v)]) hx hb dJ6_getChars_ba4f3_57 hl (k := 0) rfl (sb_m1 (by omega)) (by decide) rfl (fun ls hl => ?_)
        refine lv_iload hx hb dJ6_getChars_ba4f3_60 (lv_at hl 0 rfl) ?_
        refine va_gets hx hb (hG.Z hAo hd2) hS hown (hG.hts h0 _ _ wf_J6_87) (fun _ h9 => h9) dJ6_getChars_ba4f3_62 ?_
        refine lv_iload hx hb dJ6_getChars_ba4f3_65 (lv_at hl 2 rfl) ?_
        refine va_tb hx hb (hG.T hAo hd2T) hS (i := nI (((w / 100) / 100) % 100)) (vp_in_nI (by omega) (by omega)) (v := .int (nI (48 + (((w / 100) / 100) % 100) / 10))) (by rw [nI_clamp (by omega)]) dJ6_getChars_ba4f3_67 ?_
        have htg := hB.tag 1 rfl
        refine g_bast hx hb hK hB hS (htg) 1 1 rfl rfl (P - 1 - 1 - 1 - 1 - 1 - 1) (rfl) (by omega) (by omega) (y := (nI (48 + (((w / 100) / 100) % 100) / 10)).toInt8.toInt32) (vp_nar_byte _) dJ6_getChars_ba4f3_68 (fun H locs oq hz1 hB' hS => ?_)
        have hB : Tw X ow t (bfW X a v ml n cap (upd (upd (upd (upd (upd (upd bs (P - 1) ((nI (48 + (w % 100) % 10)).toInt8.toInt32)) (P - 1 - 1) ((nI (48 + (w % 100) / 10)).toInt8.toInt32)) (P - 1 - 1 - 1) ((nI (48 + ((w / 100) % 100) % 10)).toInt8.toInt32)) (P - 1 - 1 - 1 - 1) ((nI (48 + ((w / 100) % 100) / 10)).toInt8.toInt32)) (P - 1 - 1 - 1 - 1 - 1) ((nI (48 + (((w / 100) / 100) % 100) % 10)).toInt8.toInt32)) (P - 1 - 1 - 1 - 1 - 1 - 1) ((nI (48 + (((w / 100) / 100) % 100) / 10)).toInt8.toInt32))) H := hB'
        refine lv_goto (tgt := 22) hx hb dJ6_getChars_ba4f3_69 (by decide) ?_
        refine lv_iload_n hx hb dJ6_getChars_ba4f3_22 rfl (lv_at hl 1 rfl) ?_
        refine lv_bipush (v := (-100)) hx hb dJ6_getChars_ba4f3_23 (by decide) ?_
        refine lv_icmp_gt (tgt := 72) hx hb dJ6_getChars_ba4f3_25 (by decide) (fun c_25''' => ?_) (fun c_25''' => ?_)
        · have n_25''' := Int32.not_le.mpr c_25'''
          have hw3 : (((w / 100) / 100) / 100) < 100 := (sb_nlt (a := 100) (b := (((w / 100) / 100) / 100)) (by decide) (by omega)).mp c_25'''
          refine lv_aload_n hx hb dJ6_getChars_ba4f3_72 rfl (lv_at hl 6 rfl) ?_
          refine lv_iinc (v := nI (P - 1 - 1 - 1 - 1 - 1 - 1 - 1)) (lv' := [(5, .int (nI (P - 1 - 1 - 1 - 1 - 1 - 1 - 1))), (0, .int (-nI (((w / 100) / 100) / 100))), (4, .int (nI (((w / 100) / 100) % 100))), (3, .int (-nI (((w / 100) / 100) / 100))), (6, .int 0), (1, .int (nI P)), (2, .ref v)]) hx hb dJ6_getChars_ba4f3_73 hl (k := 0) rfl (sb_m1 (by omega)) (by decide) rfl (fun ls hl => ?_)
          refine lv_iload hx hb dJ6_getChars_ba4f3_76 (lv_at hl 0 rfl) ?_
          refine va_gets hx hb (hG.Z hAo hd1) hS hown (hG.hts h0 _ _ wf_J6_83) (fun _ h9 => h9) dJ6_getChars_ba4f3_78 ?_
          refine lv_iload_n hx hb dJ6_getChars_ba4f3_81 rfl (lv_at hl 1 rfl) ?_
          refine lv_ineg hx hb dJ6_getChars_ba4f3_82 ?_
          refine lv_topE (y := nI (((w / 100) / 100) / 100)) (Int32.neg_neg) ?_
          refine va_tb hx hb (hG.T hAo hd1T) hS (i := nI (((w / 100) / 100) / 100)) (vp_in_nI (by omega) (by omega)) (v := .int (nI (48 + (((w / 100) / 100) / 100) % 10))) (by rw [nI_clamp (by omega)]) dJ6_getChars_ba4f3_83 ?_
          have htg := hB.tag 1 rfl
          refine g_bast hx hb hK hB hS (htg) 1 1 rfl rfl (P - 1 - 1 - 1 - 1 - 1 - 1 - 1) (rfl) (by omega) (by omega) (y := (nI (48 + (((w / 100) / 100) / 100) % 10)).toInt8.toInt32) (vp_nar_byte _) dJ6_getChars_ba4f3_84 (fun H locs oq hz1 hB' hS => ?_)
          have hB : Tw X ow t (bfW X a v ml n cap (upd (upd (upd (upd (upd (upd (upd bs (P - 1) ((nI (48 + (w % 100) % 10)).toInt8.toInt32)) (P - 1 - 1) ((nI (48 + (w % 100) / 10)).toInt8.toInt32)) (P - 1 - 1 - 1) ((nI (48 + ((w / 100) % 100) % 10)).toInt8.toInt32)) (P - 1 - 1 - 1 - 1) ((nI (48 + ((w / 100) % 100) / 10)).toInt8.toInt32)) (P - 1 - 1 - 1 - 1 - 1) ((nI (48 + (((w / 100) / 100) % 100) % 10)).toInt8.toInt32)) (P - 1 - 1 - 1 - 1 - 1 - 1) ((nI (48 + (((w / 100) / 100) % 100) / 10)).toInt8.toInt32)) (P - 1 - 1 - 1 - 1 - 1 - 1 - 1) ((nI (48 + (((w / 100) / 100) / 100) % 10)).toInt8.toInt32))) H := hB'
          refine lv_iload_n hx hb dJ6_getChars_ba4f3_85 rfl (lv_at hl 1 rfl) ?_
          refine lv_bipush (v := (-9)) hx hb dJ6_getChars_ba4f3_86 (by decide) ?_
          refine lv_icmp_ge (tgt := 104) hx hb dJ6_getChars_ba4f3_88 (by decide) (fun c_88 => ?_) (fun c_88 => ?_)
          · have n_88 := Int32.not_lt.mpr c_88
            have hw9 : (((w / 100) / 100) / 100) ≤ 9 := (sb_nle (a := 9) (b := (((w / 100) / 100) / 100)) (by decide) (by omega)).mp c_88
            refine lv_iload hx hb dJ6_getChars_ba4f3_104 (lv_at hl 4 rfl) ?_
            refine lv_if_eq (tgt := 118) hx hb dJ6_getChars_ba4f3_106 (by decide) (fun c_106 => ?_) (fun c_106 => absurd c_106 (by decide))
            refine lv_iload hx hb dJ6_getChars_ba4f3_118 (lv_at hl 0 rfl) ?_
            exact mm_iret hF hS dJ6_getChars_ba4f3_120 (⟨⟨_, rfl⟩, _, hB, by repeat (first | exact hfit | refine sb_fitU ?_ (pk_fb _)), fun j hj => by repeat (first | rfl | rw [pk_un (by omega)])⟩)
          · have n_88 := Int32.not_le.mp c_88
            have hw9 : 9 < (((w / 100) / 100) / 100) := (sb_nlt (a := (((w / 100) / 100) / 100)) (b := 9) (by omega) (by decide)).mp n_88
            have hd9 : sb_dg (((w / 100) / 100) / 100) = 2 := by unfold sb_dg; rw [if_neg (by omega), if_pos (by omega)]
            refine lv_aload_n hx hb dJ6_getChars_ba4f3_91 rfl (lv_at hl 6 rfl) ?_
            refine lv_iinc (v := nI (P - 1 - 1 - 1 - 1 - 1 - 1 - 1 - 1)) (lv' := [(5, .int (nI (P - 1 - 1 - 1 - 1 - 1 - 1 - 1 - 1))), (0, .int (-nI (((w / 100) / 100) / 100))), (4, .int (nI (((w / 100) / 100) % 100))), (3, .int (-nI (((w / 100) / 100) / 100))), (6, .int 0), (1, .int (nI P)), (2, .ref v)]) hx hb dJ6_getChars_ba4f3_92 hl (k := 0) rfl (sb_m1 (by omega)) (by decide) rfl (fun ls hl => ?_)
            refine lv_iload hx hb dJ6_getChars_ba4f3_95 (lv_at hl 0 rfl) ?_
            refine va_gets hx hb (hG.Z hAo hd2) hS hown (hG.hts h0 _ _ wf_J6_87) (fun _ h9 => h9) dJ6_getChars_ba4f3_97 ?_
            refine lv_iload_n hx hb dJ6_getChars_ba4f3_100 rfl (lv_at hl 1 rfl) ?_
            refine lv_ineg hx hb dJ6_getChars_ba4f3_101 ?_
            refine lv_topE (y := nI (((w / 100) / 100) / 100)) (Int32.neg_neg) ?_
            refine va_tb hx hb (hG.T hAo hd2T) hS (i := nI (((w / 100) / 100) / 100)) (vp_in_nI (by omega) (by omega)) (v := .int (nI (48 + (((w / 100) / 100) / 100) / 10))) (by rw [nI_clamp (by omega)]) dJ6_getChars_ba4f3_102 ?_
            have htg := hB.tag 1 rfl
            refine g_bast hx hb hK hB hS (htg) 1 1 rfl rfl (P - 1 - 1 - 1 - 1 - 1 - 1 - 1 - 1) (rfl) (by omega) (by omega) (y := (nI (48 + (((w / 100) / 100) / 100) / 10)).toInt8.toInt32) (vp_nar_byte _) dJ6_getChars_ba4f3_103 (fun H locs oq hz1 hB' hS => ?_)
            have hB : Tw X ow t (bfW X a v ml n cap (upd (upd (upd (upd (upd (upd (upd (upd bs (P - 1) ((nI (48 + (w % 100) % 10)).toInt8.toInt32)) (P - 1 - 1) ((nI (48 + (w % 100) / 10)).toInt8.toInt32)) (P - 1 - 1 - 1) ((nI (48 + ((w / 100) % 100) % 10)).toInt8.toInt32)) (P - 1 - 1 - 1 - 1) ((nI (48 + ((w / 100) % 100) / 10)).toInt8.toInt32)) (P - 1 - 1 - 1 - 1 - 1) ((nI (48 + (((w / 100) / 100) % 100) % 10)).toInt8.toInt32)) (P - 1 - 1 - 1 - 1 - 1 - 1) ((nI (48 + (((w / 100) / 100) % 100) / 10)).toInt8.toInt32)) (P - 1 - 1 - 1 - 1 - 1 - 1 - 1) ((nI (48 + (((w / 100) / 100) / 100) % 10)).toInt8.toInt32)) (P - 1 - 1 - 1 - 1 - 1 - 1 - 1 - 1) ((nI (48 + (((w / 100) / 100) / 100) / 10)).toInt8.toInt32))) H := hB'
            refine lv_iload hx hb dJ6_getChars_ba4f3_104 (lv_at hl 4 rfl) ?_
            refine lv_if_eq (tgt := 118) hx hb dJ6_getChars_ba4f3_106 (by decide) (fun c_106 => ?_) (fun c_106 => absurd c_106 (by decide))
            refine lv_iload hx hb dJ6_getChars_ba4f3_118 (lv_at hl 0 rfl) ?_
            exact mm_iret hF hS dJ6_getChars_ba4f3_120 (⟨⟨_, rfl⟩, _, hB, by repeat (first | exact hfit | refine sb_fitU ?_ (pk_fb _)), fun j hj => by repeat (first | rfl | rw [pk_un (by omega)])⟩)
        · have n_25''' := Int32.not_lt.mp c_25'''
          have hw3 : 100 ≤ (((w / 100) / 100) / 100) := (sb_nle (a := (((w / 100) / 100) / 100)) (b := 100) (by omega) (by decide)).mp n_25'''
          have hd3a := sb_dg100 (w := (((w / 100) / 100) / 100)) hw3 (by omega)
          have hd3b := sb_dg_in ((((w / 100) / 100) / 100) / 100)
          refine lv_iload_n hx hb dJ6_getChars_ba4f3_28 rfl (lv_at hl 1 rfl) ?_
          refine lv_bipush (v := 100) hx hb dJ6_getChars_ba4f3_29 (by decide) ?_
          refine lv_idiv hx hb dJ6_getChars_ba4f3_31 (by decide) ?_
          refine lv_topE (y := -nI ((((w / 100) / 100) / 100) / 100)) (sb_ndiv (by omega)) ?_
          refine lv_istore_n (lv' := [(3, .int (-nI ((((w / 100) / 100) / 100) / 100))), (5, .int (nI (P - 1 - 1 - 1 - 1 - 1 - 1))), (0, .int (-nI (((w / 100) / 100) / 100))), (4, .int (nI (((w / 100) / 100) % 100))), (6, .int 0), (1, .int (nI P)), (2, .ref v)]) hx hb dJ6_getChars_ba4f3_32 rfl hl (by decide) rfl (fun ls hl => ?_)
          refine lv_iload_n hx hb dJ6_getChars_ba4f3_33 rfl (lv_at hl 0 rfl) ?_
          refine lv_bipush (v := 100) hx hb dJ6_getChars_ba4f3_34 (by decide) ?_
          refine lv_imul hx hb dJ6_getChars_ba4f3_36 ?_
          refine lv_iload_n hx hb dJ6_getChars_ba4f3_37 rfl (lv_at hl 2 rfl) ?_
          refine lv_isub hx hb dJ6_getChars_ba4f3_38 ?_
          refine lv_topE (y := nI ((((w / 100) / 100) / 100) % 100)) (sb_nrem (by omega)) ?_
          refine lv_istore (lv' := [(4, .int (nI ((((w / 100) / 100) / 100) % 100))), (3, .int (-nI ((((w / 100) / 100) / 100) / 100))), (5, .int (nI (P - 1 - 1 - 1 - 1 - 1 - 1))), (0, .int (-nI (((w / 100) / 100) / 100))), (6, .int 0), (1, .int (nI P)), (2, .ref v)]) hx hb dJ6_getChars_ba4f3_39 hl (by decide) rfl (fun ls hl => ?_)
          refine lv_iload_n hx hb dJ6_getChars_ba4f3_41 rfl (lv_at hl 1 rfl) ?_
          refine lv_istore_n (lv' := [(0, .int (-nI ((((w / 100) / 100) / 100) / 100))), (4, .int (nI ((((w / 100) / 100) / 100) % 100))), (3, .int (-nI ((((w / 100) / 100) / 100) / 100))), (5, .int (nI (P - 1 - 1 - 1 - 1 - 1 - 1))), (6, .int 0), (1, .int (nI P)), (2, .ref v)]) hx hb dJ6_getChars_ba4f3_42 rfl hl (by decide) rfl (fun ls hl => ?_)
          refine lv_aload_n hx hb dJ6_getChars_ba4f3_43 rfl (lv_at hl 6 rfl) ?_
          refine lv_iinc (v := nI (P - 1 - 1 - 1 - 1 - 1 - 1 - 1)) (lv' := [(5, .int (nI (P - 1 - 1 - 1 - 1 - 1 - 1 - 1))), (0, .int (-nI ((((w / 100) / 100) / 100) / 100))), (4, .int (nI ((((w / 100) / 100) / 100) % 100))), (3, .int (-nI ((((w / 100) / 100) / 100) / 100))), (6, .int 0), (1, .int (nI P)), (2, .ref v)]) hx hb dJ6_getChars_ba4f3_44 hl (k := 3) rfl (sb_m1 (by omega)) (by decide) rfl (fun ls hl => ?_)
          refine lv_iload hx hb dJ6_getChars_ba4f3_47 (lv_at hl 0 rfl) ?_
          refine va_gets hx hb (hG.Z hAo hd1) hS hown (hG.hts h0 _ _ wf_J6_83) (fun _ h9 => h9) dJ6_getChars_ba4f3_49 ?_
          refine lv_iload hx hb dJ6_getChars_ba4f3_52 (lv_at hl 2 rfl) ?_
          refine va_tb hx hb (hG.T hAo hd1T) hS (i := nI ((((w / 100) / 100) / 100) % 100)) (vp_in_nI (by omega) (by omega)) (v := .int (nI (48 + ((((w / 100) / 100) / 100) % 100) % 10))) (by rw [nI_clamp (by omega)]) dJ6_getChars_ba4f3_54 ?_
          have htg := hB.tag 1 rfl
          refine g_bast hx hb hK hB hS (htg) 1 1 rfl rfl (P - 1 - 1 - 1 - 1 - 1 - 1 - 1) (rfl) (by omega) (by omega) (y := (nI (48 + ((((w / 100) / 100) / 100) % 100) % 10)).toInt8.toInt32) (vp_nar_byte _) dJ6_getChars_ba4f3_55 (fun H locs oq hz1 hB' hS => ?_)
          have hB : Tw X ow t (bfW X a v ml n cap (upd (upd (upd (upd (upd (upd (upd bs (P - 1) ((nI (48 + (w % 100) % 10)).toInt8.toInt32)) (P - 1 - 1) ((nI (48 + (w % 100) / 10)).toInt8.toInt32)) (P - 1 - 1 - 1) ((nI (48 + ((w / 100) % 100) % 10)).toInt8.toInt32)) (P - 1 - 1 - 1 - 1) ((nI (48 + ((w / 100) % 100) / 10)).toInt8.toInt32)) (P - 1 - 1 - 1 - 1 - 1) ((nI (48 + (((w / 100) / 100) % 100) % 10)).toInt8.toInt32)) (P - 1 - 1 - 1 - 1 - 1 - 1) ((nI (48 + (((w / 100) / 100) % 100) / 10)).toInt8.toInt32)) (P - 1 - 1 - 1 - 1 - 1 - 1 - 1) ((nI (48 + ((((w / 100) / 100) / 100) % 100) % 10)).toInt8.toInt32))) H := hB'
          refine lv_aload_n hx hb dJ6_getChars_ba4f3_56 rfl (lv_at hl 6 rfl) ?_
          refine lv_iinc (v := nI (P - 1 - 1 - 1 - 1 - 1 - 1 - 1 - 1)) (lv' := [(5, .int (nI (P - 1 - 1 - 1 - 1 - 1 - 1 - 1 - 1))), (0, .int (-nI ((((w / 100) / 100) / 100) / 100))), (4, .int (nI ((((w / 100) / 100) / 100) % 100))), (3, .int (-nI ((((w / 100) / 100) / 100) / 100))), (6, .int 0), (1, .int (nI P)), (2, .ref v)]) hx hb dJ6_getChars_ba4f3_57 hl (k := 0) rfl (sb_m1 (by omega)) (by decide) rfl (fun ls hl => ?_)
          refine lv_iload hx hb dJ6_getChars_ba4f3_60 (lv_at hl 0 rfl) ?_
          refine va_gets hx hb (hG.Z hAo hd2) hS hown (hG.hts h0 _ _ wf_J6_87) (fun _ h9 => h9) dJ6_getChars_ba4f3_62 ?_
          refine lv_iload hx hb dJ6_getChars_ba4f3_65 (lv_at hl 2 rfl) ?_
          refine va_tb hx hb (hG.T hAo hd2T) hS (i := nI ((((w / 100) / 100) / 100) % 100)) (vp_in_nI (by omega) (by omega)) (v := .int (nI (48 + ((((w / 100) / 100) / 100) % 100) / 10))) (by rw [nI_clamp (by omega)]) dJ6_getChars_ba4f3_67 ?_
          have htg := hB.tag 1 rfl
          refine g_bast hx hb hK hB hS (htg) 1 1 rfl rfl (P - 1 - 1 - 1 - 1 - 1 - 1 - 1 - 1) (rfl) (by omega) (by omega) (y := (nI (48 + ((((w / 100) / 100) / 100) % 100) / 10)).toInt8.toInt32) (vp_nar_byte _) dJ6_getChars_ba4f3_68 (fun H locs oq hz1 hB' hS => ?_)
          have hB : Tw X ow t (bfW X a v ml n cap (upd (upd (upd (upd (upd (upd (upd (upd bs (P - 1) ((nI (48 + (w % 100) % 10)).toInt8.toInt32)) (P - 1 - 1) ((nI (48 + (w % 100) / 10)).toInt8.toInt32)) (P - 1 - 1 - 1) ((nI (48 + ((w / 100) % 100) % 10)).toInt8.toInt32)) (P - 1 - 1 - 1 - 1) ((nI (48 + ((w / 100) % 100) / 10)).toInt8.toInt32)) (P - 1 - 1 - 1 - 1 - 1) ((nI (48 + (((w / 100) / 100) % 100) % 10)).toInt8.toInt32)) (P - 1 - 1 - 1 - 1 - 1 - 1) ((nI (48 + (((w / 100) / 100) % 100) / 10)).toInt8.toInt32)) (P - 1 - 1 - 1 - 1 - 1 - 1 - 1) ((nI (48 + ((((w / 100) / 100) / 100) % 100) % 10)).toInt8.toInt32)) (P - 1 - 1 - 1 - 1 - 1 - 1 - 1 - 1) ((nI (48 + ((((w / 100) / 100) / 100) % 100) / 10)).toInt8.toInt32))) H := hB'
          refine lv_goto (tgt := 22) hx hb dJ6_getChars_ba4f3_69 (by decide) ?_
          refine lv_iload_n hx hb dJ6_getChars_ba4f3_22 rfl (lv_at hl 1 rfl) ?_
          refine lv_bipush (v := (-100)) hx hb dJ6_getChars_ba4f3_23 (by decide) ?_
          refine lv_icmp_gt (tgt := 72) hx hb dJ6_getChars_ba4f3_25 (by decide) (fun c_25'''' => ?_) (fun c_25'''' => absurd (show -nI 100 < -nI ((((w / 100) / 100) / 100) / 100) from (sb_nlt (by decide) (by omega)).mpr (by omega)) c_25'''')
          have n_25'''' := Int32.not_le.mpr c_25''''
          refine lv_aload_n hx hb dJ6_getChars_ba4f3_72 rfl (lv_at hl 6 rfl) ?_
          refine lv_iinc (v := nI (P - 1 - 1 - 1 - 1 - 1 - 1 - 1 - 1 - 1)) (lv' := [(5, .int (nI (P - 1 - 1 - 1 - 1 - 1 - 1 - 1 - 1 - 1))), (0, .int (-nI ((((w / 100) / 100) / 100) / 100))), (4, .int (nI ((((w / 100) / 100) / 100) % 100))), (3, .int (-nI ((((w / 100) / 100) / 100) / 100))), (6, .int 0), (1, .int (nI P)), (2, .ref v)]) hx hb dJ6_getChars_ba4f3_73 hl (k := 0) rfl (sb_m1 (by omega)) (by decide) rfl (fun ls hl => ?_)
          refine lv_iload hx hb dJ6_getChars_ba4f3_76 (lv_at hl 0 rfl) ?_
          refine va_gets hx hb (hG.Z hAo hd1) hS hown (hG.hts h0 _ _ wf_J6_83) (fun _ h9 => h9) dJ6_getChars_ba4f3_78 ?_
          refine lv_iload_n hx hb dJ6_getChars_ba4f3_81 rfl (lv_at hl 1 rfl) ?_
          refine lv_ineg hx hb dJ6_getChars_ba4f3_82 ?_
          refine lv_topE (y := nI ((((w / 100) / 100) / 100) / 100)) (Int32.neg_neg) ?_
          refine va_tb hx hb (hG.T hAo hd1T) hS (i := nI ((((w / 100) / 100) / 100) / 100)) (vp_in_nI (by omega) (by omega)) (v := .int (nI (48 + ((((w / 100) / 100) / 100) / 100) % 10))) (by rw [nI_clamp (by omega)]) dJ6_getChars_ba4f3_83 ?_
          have htg := hB.tag 1 rfl
          refine g_bast hx hb hK hB hS (htg) 1 1 rfl rfl (P - 1 - 1 - 1 - 1 - 1 - 1 - 1 - 1 - 1) (rfl) (by omega) (by omega) (y := (nI (48 + ((((w / 100) / 100) / 100) / 100) % 10)).toInt8.toInt32) (vp_nar_byte _) dJ6_getChars_ba4f3_84 (fun H locs oq hz1 hB' hS => ?_)
          have hB : Tw X ow t (bfW X a v ml n cap (upd (upd (upd (upd (upd (upd (upd (upd (upd bs (P - 1) ((nI (48 + (w % 100) % 10)).toInt8.toInt32)) (P - 1 - 1) ((nI (48 + (w % 100) / 10)).toInt8.toInt32)) (P - 1 - 1 - 1) ((nI (48 + ((w / 100) % 100) % 10)).toInt8.toInt32)) (P - 1 - 1 - 1 - 1) ((nI (48 + ((w / 100) % 100) / 10)).toInt8.toInt32)) (P - 1 - 1 - 1 - 1 - 1) ((nI (48 + (((w / 100) / 100) % 100) % 10)).toInt8.toInt32)) (P - 1 - 1 - 1 - 1 - 1 - 1) ((nI (48 + (((w / 100) / 100) % 100) / 10)).toInt8.toInt32)) (P - 1 - 1 - 1 - 1 - 1 - 1 - 1) ((nI (48 + ((((w / 100) / 100) / 100) % 100) % 10)).toInt8.toInt32)) (P - 1 - 1 - 1 - 1 - 1 - 1 - 1 - 1) ((nI (48 + ((((w / 100) / 100) / 100) % 100) / 10)).toInt8.toInt32)) (P - 1 - 1 - 1 - 1 - 1 - 1 - 1 - 1 - 1) ((nI (48 + ((((w / 100) / 100) / 100) / 100) % 10)).toInt8.toInt32))) H := hB'
          refine lv_iload_n hx hb dJ6_getChars_ba4f3_85 rfl (lv_at hl 1 rfl) ?_
          refine lv_bipush (v := (-9)) hx hb dJ6_getChars_ba4f3_86 (by decide) ?_
          refine lv_icmp_ge (tgt := 104) hx hb dJ6_getChars_ba4f3_88 (by decide) (fun c_88 => ?_) (fun c_88 => ?_)
          · have n_88 := Int32.not_lt.mpr c_88
            have hw9 : ((((w / 100) / 100) / 100) / 100) ≤ 9 := (sb_nle (a := 9) (b := ((((w / 100) / 100) / 100) / 100)) (by decide) (by omega)).mp c_88
            refine lv_iload hx hb dJ6_getChars_ba4f3_104 (lv_at hl 4 rfl) ?_
            refine lv_if_eq (tgt := 118) hx hb dJ6_getChars_ba4f3_106 (by decide) (fun c_106 => ?_) (fun c_106 => absurd c_106 (by decide))
            refine lv_iload hx hb dJ6_getChars_ba4f3_118 (lv_at hl 0 rfl) ?_
            exact mm_iret hF hS dJ6_getChars_ba4f3_120 (⟨⟨_, rfl⟩, _, hB, by repeat (first | exact hfit | refine sb_fitU ?_ (pk_fb _)), fun j hj => by repeat (first | rfl | rw [pk_un (by omega)])⟩)
          · have n_88 := Int32.not_le.mp c_88
            have hw9 : 9 < ((((w / 100) / 100) / 100) / 100) := (sb_nlt (a := ((((w / 100) / 100) / 100) / 100)) (b := 9) (by omega) (by decide)).mp n_88
            have hd9 : sb_dg ((((w / 100) / 100) / 100) / 100) = 2 := by unfold sb_dg; rw [if_neg (by omega), if_pos (by omega)]
            refine lv_aload_n hx hb dJ6_getChars_ba4f3_91 rfl (lv_at hl 6 rfl) ?_
            refine lv_iinc (v := nI (P - 1 - 1 - 1 - 1 - 1 - 1 - 1 - 1 - 1 - 1)) (lv' := [(5, .int (nI (P - 1 - 1 - 1 - 1 - 1 - 1 - 1 - 1 - 1 - 1))), (0, .int (-nI ((((w / 100) / 100) / 100) / 100))), (4, .int (nI ((((w / 100) / 100) / 100) % 100))), (3, .int (-nI ((((w / 100) / 100) / 100) / 100))), (6, .int 0), (1, .int (nI P)), (2, .ref v)]) hx hb dJ6_getChars_ba4f3_92 hl (k := 0) rfl (sb_m1 (by omega)) (by decide) rfl (fun ls hl => ?_)
            refine lv_iload hx hb dJ6_getChars_ba4f3_95 (lv_at hl 0 rfl) ?_
            refine va_gets hx hb (hG.Z hAo hd2) hS hown (hG.hts h0 _ _ wf_J6_87) (fun _ h9 => h9) dJ6_getChars_ba4f3_97 ?_
            refine lv_iload_n hx hb dJ6_getChars_ba4f3_100 rfl (lv_at hl 1 rfl) ?_
            refine lv_ineg hx hb dJ6_getChars_ba4f3_101 ?_
            refine lv_topE (y := nI ((((w / 100) / 100) / 100) / 100)) (Int32.neg_neg) ?_
            refine va_tb hx hb (hG.T hAo hd2T) hS (i := nI ((((w / 100) / 100) / 100) / 100)) (vp_in_nI (by omega) (by omega)) (v := .int (nI (48 + ((((w / 100) / 100) / 100) / 100) / 10))) (by rw [nI_clamp (by omega)]) dJ6_getChars_ba4f3_102 ?_
            have htg := hB.tag 1 rfl
            refine g_bast hx hb hK hB hS (htg) 1 1 rfl rfl (P - 1 - 1 - 1 - 1 - 1 - 1 - 1 - 1 - 1 - 1) (rfl) (by omega) (by omega) (y := (nI (48 + ((((w / 100) / 100) / 100) / 100) / 10)).toInt8.toInt32) (vp_nar_byte _) dJ6_getChars_ba4f3_103 (fun H locs oq hz1 hB' hS => ?_)
            have hB : Tw X ow t (bfW X a v ml n cap (upd (upd (upd (upd (upd (upd (upd (upd (upd (upd bs (P - 1) ((nI (48 + (w % 100) % 10)).toInt8.toInt32)) (P - 1 - 1) ((nI (48 + (w % 100) / 10)).toInt8.toInt32)) (P - 1 - 1 - 1) ((nI (48 + ((w / 100) % 100) % 10)).toInt8.toInt32)) (P - 1 - 1 - 1 - 1) ((nI (48 + ((w / 100) % 100) / 10)).toInt8.toInt32)) (P - 1 - 1 - 1 - 1 - 1) ((nI (48 + (((w / 100) / 100) % 100) % 10)).toInt8.toInt32)) (P - 1 - 1 - 1 - 1 - 1 - 1) ((nI (48 + (((w / 100) / 100) % 100) / 10)).toInt8.toInt32)) (P - 1 - 1 - 1 - 1 - 1 - 1 - 1) ((nI (48 + ((((w / 100) / 100) / 100) % 100) % 10)).toInt8.toInt32)) (P - 1 - 1 - 1 - 1 - 1 - 1 - 1 - 1) ((nI (48 + ((((w / 100) / 100) / 100) % 100) / 10)).toInt8.toInt32)) (P - 1 - 1 - 1 - 1 - 1 - 1 - 1 - 1 - 1) ((nI (48 + ((((w / 100) / 100) / 100) / 100) % 10)).toInt8.toInt32)) (P - 1 - 1 - 1 - 1 - 1 - 1 - 1 - 1 - 1 - 1) ((nI (48 + ((((w / 100) / 100) / 100) / 100) / 10)).toInt8.toInt32))) H := hB'
            refine lv_iload hx hb dJ6_getChars_ba4f3_104 (lv_at hl 4 rfl) ?_
            refine lv_if_eq (tgt := 118) hx hb dJ6_getChars_ba4f3_106 (by decide) (fun c_106 => ?_) (fun c_106 => absurd c_106 (by decide))
            refine lv_iload hx hb dJ6_getChars_ba4f3_118 (lv_at hl 0 rfl) ?_
            exact mm_iret hF hS dJ6_getChars_ba4f3_120 (⟨⟨_, rfl⟩, _, hB, by repeat (first | exact hfit | refine sb_fitU ?_ (pk_fb _)), fun j hj => by repeat (first | rfl | rw [pk_un (by omega)])⟩)
