/-! the two methods with rests of any sign, by program -/
noncomputable def lX9_divisorx_17 {d : Nat} (P : zP d) (r17 : zK d) : zK d := (xlld 6 (xpL 0 (xlcmp (xif0 t0eq (xlld 4 (xlret P)) (xlld 4 (xlld 6 (xbinjN zremjX (xlst 8 (xlld 6 (xlst 4 (xlld 8 (xlst 6 r17))))))))))))
set_option maxRecDepth 100000 in
set_option maxHeartbeats 4000000 in
theorem slX9_divisorx_17 {d : Nat} [zGh] (P : zP d) (r17 : zK d) (hr17 : zSimJ 1 X_X9_divisor 1 P 17 r17) : zSim X_X9_divisor 1 P 17 (lX9_divisorx_17 P r17) := by
  unfold lX9_divisorx_17
  refine sm_lload (pc := 17) (n := 6) dX9_divisor_17 ?_
  refine sm_lconst (pc := 19) dX9_divisor_19 zc_l_0 ?_
  refine sm_lcmp (pc := 20) dX9_divisor_20 ?_
  refine sm_if_eq (pc := 21) (tgt := 42) dX9_divisor_21 (by decide) ?_ ?_
  · skip
    refine sm_lload (pc := 42) (n := 4) dX9_divisor_42 ?_
    exact sm_lreturn (pc := 44) dX9_divisor_44 rfl
  · skip
    refine sm_lload (pc := 24) (n := 4) dX9_divisor_24 ?_
    refine sm_lload (pc := 26) (n := 6) dX9_divisor_26 ?_
    refine sm_lremX (pc := 28) dX9_divisor_28 ?_
    refine sm_lstore (pc := 29) (n := 8) dX9_divisor_29 ?_
    refine sm_lload (pc := 31) (n := 6) dX9_divisor_31 ?_
    refine sm_lstore (pc := 33) (n := 4) dX9_divisor_33 ?_
    refine sm_lload (pc := 35) (n := 8) dX9_divisor_35 ?_
    refine sm_lstore (pc := 37) (n := 6) dX9_divisor_37 ?_
    refine sm_goto (pc := 39) (tgt := 17) dX9_divisor_39 (by decide) ?_
    exact hr17.use
noncomputable def bX9_divisorx_12 {d : Nat} (P : zP d) : zK d := (xlst 4 (xlld 2 (xlst 6 (xloop (fun r17 => (lX9_divisorx_17 P r17)) 100000))))
set_option maxRecDepth 100000 in
set_option maxHeartbeats 4000000 in
theorem sbX9_divisorx_12 {d : Nat} [zGh] (P : zP d) : zSim X_X9_divisor 1 P 12 (bX9_divisorx_12 P) := by
  unfold bX9_divisorx_12
  refine sm_lstore (pc := 12) (n := 4) dX9_divisor_12 ?_
  refine sm_lload_n (pc := 14) (n := 2) dX9_divisor_14 rfl ?_
  refine sm_lstore (pc := 15) (n := 6) dX9_divisor_15 ?_
  exact (sm_loopJ (j := 1) (fun G1 hG1 r17 hr17 => @slX9_divisorx_17 d G1 P r17 hr17) _).use
noncomputable def b_X9_divisorx {d : Nat} (P : zP d) : zK d := (xlld 0 (xpL 0 (xlcmp (xjoin (bX9_divisorx_12 P) (fun j12 => (xif0 t0ge (xlld 0 j12) (xlld 0 (xunj znegj j12))))))))
set_option maxRecDepth 100000 in
set_option maxHeartbeats 4000000 in
theorem s_X9_divisorx {d : Nat} [zGh] (P : zP d) : zSim X_X9_divisor 1 P 0 (b_X9_divisorx P) := by
  unfold b_X9_divisorx
  refine sm_lload_n (pc := 0) (n := 0) dX9_divisor_0 rfl ?_
  refine sm_lconst (pc := 1) dX9_divisor_1 zc_l_0 ?_
  refine sm_lcmp (pc := 2) dX9_divisor_2 ?_
  refine sm_joinJ (pc := 3) (pc' := 12) (j := 1) (fun G0 hG0 => @sbX9_divisorx_12 d G0 P) (fun j12 hj12 => ?_)
  refine sm_if_ge (pc := 3) (tgt := 11) dX9_divisor_3 (by decide) ?_ ?_
  · skip
    refine sm_lload_n (pc := 11) (n := 0) dX9_divisor_11 rfl ?_
    exact hj12.use
  · skip
    refine sm_lload_n (pc := 6) (n := 0) dX9_divisor_6 rfl ?_
    refine sm_lneg (pc := 7) dX9_divisor_7 ?_
    refine sm_goto (pc := 8) (tgt := 12) dX9_divisor_8 (by decide) ?_
    exact hj12.use
noncomputable def f_X9_divisorx {d : Nat} : List zV → zH d → zP d → Bool := zfn 10 b_X9_divisorx
theorem m_X9_divisorx {d : Nat} : zMet (d := d) X_X9_divisor yX9_divisor 1 f_X9_divisorx := zmet_mk (X := X_X9_divisor) (by decide) rfl rfl s_X9_divisorx
noncomputable def bX8_greatestDivisorx_45 {d : Nat} (P : zP d) : zK d := (xlld 4 (xlret P))
set_option maxRecDepth 100000 in
set_option maxHeartbeats 4000000 in
theorem sbX8_greatestDivisorx_45 {d : Nat} [zGh] (P : zP d) : zSim X_X8_greatestDivisor 1 P 45 (bX8_greatestDivisorx_45 P) := by
  unfold bX8_greatestDivisorx_45
  refine sm_lload (pc := 45) (n := 4) dX8_greatestDivisor_45 ?_
  exact sm_lreturn (pc := 47) dX8_greatestDivisor_47 rfl
noncomputable def lX8_greatestDivisorx_9 {d : Nat} (P : zP d) (r9 : zK d) : zK d := (xild 8 (xpI 200 (xjoin (bX8_greatestDivisorx_45 P) (fun j45 => (xcmp tge j45 (xlld 6 (xpL 0 (xlcmp (xif0 t0eq j45 (xlld 4 (xlld 6 (xbinjN zremjX (xlst 9 (xlld 6 (xlst 4 (xlld 9 (xlst 6 (xinc 8 1 r9))))))))))))))))))
set_option maxRecDepth 100000 in
set_option maxHeartbeats 4000000 in
theorem slX8_greatestDivisorx_9 {d : Nat} [zGh] (P : zP d) (r9 : zK d) (hr9 : zSimJ 1 X_X8_greatestDivisor 1 P 9 r9) : zSim X_X8_greatestDivisor 1 P 9 (lX8_greatestDivisorx_9 P r9) := by
  unfold lX8_greatestDivisorx_9
  refine sm_iload (pc := 9) (n := 8) dX8_greatestDivisor_9 ?_
  refine sm_sipush (pc := 11) dX8_greatestDivisor_11 zc_s_200 ?_
  refine sm_joinJ (pc := 14) (pc' := 45) (j := 1) (fun G0 hG0 => @sbX8_greatestDivisorx_45 d G0 P) (fun j45 hj45 => ?_)
  refine sm_icmp_ge (pc := 14) (tgt := 45) dX8_greatestDivisor_14 (by decide) ?_ ?_
  · skip
    exact hj45.use
  · skip
    refine sm_lload (pc := 17) (n := 6) dX8_greatestDivisor_17 ?_
    refine sm_lconst (pc := 19) dX8_greatestDivisor_19 zc_l_0 ?_
    refine sm_lcmp (pc := 20) dX8_greatestDivisor_20 ?_
    refine sm_if_eq (pc := 21) (tgt := 45) dX8_greatestDivisor_21 (by decide) ?_ ?_
    · skip
      exact hj45.use
    · skip
      refine sm_lload (pc := 24) (n := 4) dX8_greatestDivisor_24 ?_
      refine sm_lload (pc := 26) (n := 6) dX8_greatestDivisor_26 ?_
      refine sm_lremX (pc := 28) dX8_greatestDivisor_28 ?_
      refine sm_lstore (pc := 29) (n := 9) dX8_greatestDivisor_29 ?_
      refine sm_lload (pc := 31) (n := 6) dX8_greatestDivisor_31 ?_
      refine sm_lstore (pc := 33) (n := 4) dX8_greatestDivisor_33 ?_
      refine sm_lload (pc := 35) (n := 9) dX8_greatestDivisor_35 ?_
      refine sm_lstore (pc := 37) (n := 6) dX8_greatestDivisor_37 ?_
      refine sm_iinc (pc := 39) (n := 8) dX8_greatestDivisor_39 zc_i_1 ?_
      refine sm_goto (pc := 42) (tgt := 9) dX8_greatestDivisor_42 (by decide) ?_
      exact hr9.use
noncomputable def b_X8_greatestDivisorx {d : Nat} (P : zP d) : zK d := (xlld 0 (xlst 4 (xlld 2 (xlst 6 (xpI 0 (xist 8 (xloop (fun r9 => (lX8_greatestDivisorx_9 P r9)) 100000)))))))
set_option maxRecDepth 100000 in
set_option maxHeartbeats 4000000 in
theorem s_X8_greatestDivisorx {d : Nat} [zGh] (P : zP d) : zSim X_X8_greatestDivisor 1 P 0 (b_X8_greatestDivisorx P) := by
  unfold b_X8_greatestDivisorx
  refine sm_lload_n (pc := 0) (n := 0) dX8_greatestDivisor_0 rfl ?_
  refine sm_lstore (pc := 1) (n := 4) dX8_greatestDivisor_1 ?_
  refine sm_lload_n (pc := 3) (n := 2) dX8_greatestDivisor_3 rfl ?_
  refine sm_lstore (pc := 4) (n := 6) dX8_greatestDivisor_4 ?_
  refine sm_iconst (pc := 6) dX8_greatestDivisor_6 zc_i_0 ?_
  refine sm_istore (pc := 7) (n := 8) dX8_greatestDivisor_7 ?_
  exact (sm_loopJ (j := 1) (fun G1 hG1 r9 hr9 => @slX8_greatestDivisorx_9 d G1 P r9 hr9) _).use
noncomputable def f_X8_greatestDivisorx {d : Nat} : List zV → zH d → zP d → Bool := zfn 11 b_X8_greatestDivisorx
theorem m_X8_greatestDivisorx {d : Nat} : zMet (d := d) X_X8_greatestDivisor yX8_greatestDivisor 1 f_X8_greatestDivisorx := zmet_mk (X := X_X8_greatestDivisor) (by decide) rfl rfl s_X8_greatestDivisorx
