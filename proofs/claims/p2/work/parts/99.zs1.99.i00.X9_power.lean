/-! the reference by summaries, by program -/
noncomputable def bX9_powera_30 {d : Nat} (P : zP d) (r9 : zK d) : zK d := (xlld 5 (xlld 5 (xbinj zmulj (xild 2 (xi2l (xbinjN zremj (xlst 5 (xild 7 (xpI 1 (xbin zshr (xist 7 r9)))))))))))
set_option maxRecDepth 100000 in
set_option maxHeartbeats 4000000 in
theorem sbX9_powera_30 {d : Nat} [zGh] (P : zP d) (r9 : zK d) (hr9 : zSimJ 1 X_X9_power 1 P 9 r9) : zSim X_X9_power 1 P 30 (bX9_powera_30 P r9) := by
  unfold bX9_powera_30
  refine sm_lload (pc := 30) (n := 5) dX9_power_30 ?_
  refine sm_lload (pc := 32) (n := 5) dX9_power_32 ?_
  refine sm_lmul (pc := 34) dX9_power_34 ?_
  refine sm_iload_n (pc := 35) (n := 2) dX9_power_35 rfl ?_
  refine sm_i2l (pc := 36) dX9_power_36 ?_
  refine sm_lrem (pc := 37) dX9_power_37 ?_
  refine sm_lstore (pc := 38) (n := 5) dX9_power_38 ?_
  refine sm_iload (pc := 40) (n := 7) dX9_power_40 ?_
  refine sm_iconst (pc := 42) dX9_power_42 zc_i_1 ?_
  refine sm_ishr (pc := 43) dX9_power_43 ?_
  refine sm_istore (pc := 44) (n := 7) dX9_power_44 ?_
  refine sm_goto (pc := 46) (tgt := 9) dX9_power_46 (by decide) ?_
  exact hr9.use
noncomputable def lX9_powera_9 {d : Nat} (P : zP d) (r9 : zK d) : zK d := (xild 7 (xif0S tleR rlS rhLe rlGt rhS (xlld 3 (xl2i (xiret P))) (xild 7 (xpI 1 (xbin zandR (xpI 1 (xjoin (bX9_powera_30 P r9) (fun j30 => (xcmpS teqR rlEq rhEq rlNe rhNe (xlld 3 (xlld 5 (xbinj zmulj (xild 2 (xi2l (xbinjN zremj (xlst 3 j30))))))) j30)))))))))
set_option maxRecDepth 100000 in
set_option maxHeartbeats 4000000 in
theorem slX9_powera_9 {d : Nat} [zGh] (P : zP d) (r9 : zK d) (hr9 : zSimJ 1 X_X9_power 1 P 9 r9) : zSim X_X9_power 1 P 9 (lX9_powera_9 P r9) := by
  unfold lX9_powera_9
  refine sm_iload (pc := 9) (n := 7) dX9_power_9 ?_
  refine sm_ifS_le (pc := 11) (tgt := 49) dX9_power_11 (by decide) ?_ ?_
  · skip
    refine sm_lload_n (pc := 49) (n := 3) dX9_power_49 rfl ?_
    refine sm_l2i (pc := 50) dX9_power_50 ?_
    exact sm_ireturn (pc := 51) dX9_power_51 rfl
  · skip
    refine sm_iload (pc := 14) (n := 7) dX9_power_14 ?_
    refine sm_iconst (pc := 16) dX9_power_16 zc_i_1 ?_
    refine sm_iandR (pc := 17) dX9_power_17 ?_
    refine sm_iconst (pc := 18) dX9_power_18 zc_i_1 ?_
    refine sm_joinJ (pc := 19) (pc' := 30) (j := 1) (fun G0 hG0 => @sbX9_powera_30 d G0 P r9 (hr9.mv hG0 (by decide))) (fun j30 hj30 => ?_)
    refine sm_icmpS_ne (pc := 19) (tgt := 30) dX9_power_19 (by decide) ?_ ?_
    · skip
      exact hj30.use
    · skip
      refine sm_lload_n (pc := 22) (n := 3) dX9_power_22 rfl ?_
      refine sm_lload (pc := 23) (n := 5) dX9_power_23 ?_
      refine sm_lmul (pc := 25) dX9_power_25 ?_
      refine sm_iload_n (pc := 26) (n := 2) dX9_power_26 rfl ?_
      refine sm_i2l (pc := 27) dX9_power_27 ?_
      refine sm_lrem (pc := 28) dX9_power_28 ?_
      refine sm_lstore_n (pc := 29) (n := 3) dX9_power_29 rfl ?_
      exact hj30.use
noncomputable def b_X9_powera {d : Nat} (P : zP d) : zK d := (xpL 1 (xlst 3 (xild 0 (xi2l (xlst 5 (xild 1 (xist 7 (xloop (fun r9 => (lX9_powera_9 P r9)) 100000))))))))
set_option maxRecDepth 100000 in
set_option maxHeartbeats 4000000 in
theorem s_X9_powera {d : Nat} [zGh] (P : zP d) : zSim X_X9_power 1 P 0 (b_X9_powera P) := by
  unfold b_X9_powera
  refine sm_lconst (pc := 0) dX9_power_0 zc_l_1 ?_
  refine sm_lstore_n (pc := 1) (n := 3) dX9_power_1 rfl ?_
  refine sm_iload_n (pc := 2) (n := 0) dX9_power_2 rfl ?_
  refine sm_i2l (pc := 3) dX9_power_3 ?_
  refine sm_lstore (pc := 4) (n := 5) dX9_power_4 ?_
  refine sm_iload_n (pc := 6) (n := 1) dX9_power_6 rfl ?_
  refine sm_istore (pc := 7) (n := 7) dX9_power_7 ?_
  exact (sm_loopJ (j := 1) (fun G1 hG1 r9 hr9 => @slX9_powera_9 d G1 P r9 hr9) _).use
noncomputable def f_X9_powera {d : Nat} : List zV → zH d → zP d → Bool := zfn 8 b_X9_powera
theorem m_X9_powera {d : Nat} : zMet (d := d) X_X9_power yX9_power 1 f_X9_powera := zmet_mk (X := X_X9_power) (by decide) rfl rfl s_X9_powera

