/-! the class by summaries, by program -/
noncomputable def cX4_codeOfa_44 {d : Nat} (P : zP d) (r6 : zK d) : zK d := (xist 4 (xincR 5 1 r6))
set_option maxRecDepth 100000 in
set_option maxHeartbeats 4000000 in
theorem scX4_codeOfa_44 {d : Nat} [zGh] (P : zP d) (r6 : zK d) (hr6 : zSimJ 1 X_X4_codeOf 1 P 6 r6) : zSim X_X4_codeOf 1 P 44 (cX4_codeOfa_44 P r6) := by
  unfold cX4_codeOfa_44
  refine sm_istore (pc := 44) (n := 4) dX4_codeOf_44 ?_
  refine sm_iincR (pc := 46) (n := 5) dX4_codeOf_46 zc_i_1 ?_
  refine sm_goto (pc := 49) (tgt := 6) dX4_codeOf_49 (by decide) ?_
  exact hr6.use
noncomputable def lX4_codeOfa_6 {d : Nat} (P : zP d) (r6 : zK d) : zK d := (xild 5 (xald 0 (xgfI 20 0 (xcmpS tgeR rlGe rhS rlS rhLt (xild 4 (xiret P)) (xild 4 (xald 0 (xgfR 20 9 (xild 2 (xald 0 (xgfI 20 0 (xbin zmulR (xild 5 (xbin zaddR (xalQ 0 (xald 0 (xgfR 20 12 (xald 3 (xald 1 (xild 5 (xalQ 0 (xalQ 0 (xalQ 0 (xbin zmulR (xbin zaddR (cX4_codeOfa_44 P r6)))))))))))))))))))))))))
set_option maxRecDepth 100000 in
set_option maxHeartbeats 4000000 in
theorem slX4_codeOfa_6 {d : Nat} [zGh] (P : zP d) (r6 : zK d) (hr6 : zSimJ 1 X_X4_codeOf 1 P 6 r6) : zSim X_X4_codeOf 1 P 6 (lX4_codeOfa_6 P r6) := by
  unfold lX4_codeOfa_6
  refine sm_iload (pc := 6) (n := 5) dX4_codeOf_6 ?_
  refine sm_aload_n (pc := 8) (n := 0) dX4_codeOf_8 rfl ?_
  refine gf_X4_7 (pc := 9) rfl dX4_codeOf_9 ?_
  refine sm_icmpS_ge (pc := 12) (tgt := 52) dX4_codeOf_12 (by decide) ?_ ?_
  · skip
    refine sm_iload (pc := 52) (n := 4) dX4_codeOf_52 ?_
    exact sm_ireturn (pc := 54) dX4_codeOf_54 rfl
  · skip
    refine sm_iload (pc := 15) (n := 4) dX4_codeOf_15 ?_
    refine sm_aload_n (pc := 17) (n := 0) dX4_codeOf_17 rfl ?_
    refine gf_X4_63 (pc := 18) rfl dX4_codeOf_18 ?_
    refine sm_iload_n (pc := 21) (n := 2) dX4_codeOf_21 rfl ?_
    refine sm_aload_n (pc := 22) (n := 0) dX4_codeOf_22 rfl ?_
    refine gf_X4_7 (pc := 23) rfl dX4_codeOf_23 ?_
    refine sm_imulR (pc := 26) dX4_codeOf_26 ?_
    refine sm_iload (pc := 27) (n := 5) dX4_codeOf_27 ?_
    refine sm_iaddR (pc := 29) dX4_codeOf_29 ?_
    refine sm_ialoadQ (pc := 30) dX4_codeOf_30 ?_
    refine sm_aload_n (pc := 31) (n := 0) dX4_codeOf_31 rfl ?_
    refine gf_X4_80 (pc := 32) rfl dX4_codeOf_32 ?_
    refine sm_aload_n (pc := 35) (n := 3) dX4_codeOf_35 rfl ?_
    refine sm_aload_n (pc := 36) (n := 1) dX4_codeOf_36 rfl ?_
    refine sm_iload (pc := 37) (n := 5) dX4_codeOf_37 ?_
    refine sm_ialoadQ (pc := 39) dX4_codeOf_39 ?_
    refine sm_ialoadQ (pc := 40) dX4_codeOf_40 ?_
    refine sm_ialoadQ (pc := 41) dX4_codeOf_41 ?_
    refine sm_imulR (pc := 42) dX4_codeOf_42 ?_
    refine sm_iaddR (pc := 43) dX4_codeOf_43 ?_
    exact scX4_codeOfa_44 P r6 hr6
noncomputable def b_X4_codeOfa {d : Nat} (P : zP d) : zK d := (xpI 0 (xist 4 (xpI 0 (xist 5 (xloop (fun r6 => (lX4_codeOfa_6 P r6)) 100000)))))
set_option maxRecDepth 100000 in
set_option maxHeartbeats 4000000 in
theorem s_X4_codeOfa {d : Nat} [zGh] (P : zP d) : zSim X_X4_codeOf 1 P 0 (b_X4_codeOfa P) := by
  unfold b_X4_codeOfa
  refine sm_iconst (pc := 0) dX4_codeOf_0 zc_i_0 ?_
  refine sm_istore (pc := 1) (n := 4) dX4_codeOf_1 ?_
  refine sm_iconst (pc := 3) dX4_codeOf_3 zc_i_0 ?_
  refine sm_istore (pc := 4) (n := 5) dX4_codeOf_4 ?_
  exact (sm_loopJ (j := 1) (fun G1 hG1 r6 hr6 => @slX4_codeOfa_6 d G1 P r6 hr6) _).use
noncomputable def f_X4_codeOfa {d : Nat} : List zV → zH d → zP d → Bool := zfn 6 b_X4_codeOfa
theorem m_X4_codeOfa {d : Nat} : zMet (d := d) X_X4_codeOf yX4_codeOf 1 f_X4_codeOfa := zmet_mk (X := X_X4_codeOf) (by decide) rfl rfl s_X4_codeOfa

