/-! the class by summaries, by program -/
noncomputable def bX3_reducea_172 {d : Nat} (P : zP d) : zK d := (xild 4 (xiret P))
set_option maxRecDepth 100000 in
set_option maxHeartbeats 4000000 in
theorem sbX3_reducea_172 {d : Nat} [zGh] (P : zP d) : zSim X_X3_reduce 2 P 172 (bX3_reducea_172 P) := by
  unfold bX3_reducea_172
  refine sm_iload (pc := 172) (n := 4) dX3_reduce_172 ?_
  exact sm_ireturn (pc := 174) dX3_reduce_174 rfl
noncomputable def bX3_reducea_166 {d : Nat} (P : zP d) (r6 : zK d) : zK d := (xincR 5 1 r6)
set_option maxRecDepth 100000 in
set_option maxHeartbeats 4000000 in
theorem sbX3_reducea_166 {d : Nat} [zGh] (P : zP d) (r6 : zK d) (hr6 : zSimJ 2 X_X3_reduce 2 P 6 r6) : zSim X_X3_reduce 2 P 166 (bX3_reducea_166 P r6) := by
  unfold bX3_reducea_166
  refine sm_iincR (pc := 166) (n := 5) dX3_reduce_166 zc_i_1 ?_
  refine sm_goto (pc := 169) (tgt := 6) dX3_reduce_169 (by decide) ?_
  exact hr6.use
noncomputable def bX3_reducea_157 {d : Nat} (P : zP d) (r107 : zK d) : zK d := (xincR 8 1 r107)
set_option maxRecDepth 100000 in
set_option maxHeartbeats 4000000 in
theorem sbX3_reducea_157 {d : Nat} [zGh] (P : zP d) (r107 : zK d) (hr107 : zSimJ 5 X_X3_reduce 2 P 107 r107) : zSim X_X3_reduce 2 P 157 (bX3_reducea_157 P r107) := by
  unfold bX3_reducea_157
  refine sm_iincR (pc := 157) (n := 8) dX3_reduce_157 zc_i_1 ?_
  refine sm_goto (pc := 160) (tgt := 107) dX3_reduce_160 (by decide) ?_
  exact hr107.use
noncomputable def cX3_reducea_151 {d : Nat} (P : zP d) (j157 : zK d) : zK d := (xaldV 7 (xild 3 (xcV 19 5 0 0 (zstr f_X3_takeAwaya) j157)))
set_option maxRecDepth 100000 in
set_option maxHeartbeats 4000000 in
theorem scX3_reducea_151 {d : Nat} [zGh] (P : zP d) (j157 : zK d) (hj157 : zSimJ 5 X_X3_reduce 2 P 157 j157) : zSim X_X3_reduce 2 P 151 (cX3_reducea_151 P j157) := by
  unfold cX3_reducea_151
  refine sm_aloadV (pc := 151) (n := 7) dX3_reduce_151 ?_
  refine sm_iload_n (pc := 153) (n := 3) dX3_reduce_153 rfl ?_
  refine sm_cV (pc := 154) (ci := 3) (n := 5) (mc := 0) (ms := 0) rfl (zMet_str m_X3_takeAwaya) (cr_X3_32 (X := X_X3_reduce) (fr := 2) (frc := 1) (pc := 154) (mc := 0) (ms := 0) rfl (by decide) dX3_reduce_154) ?_
  exact hj157.use
noncomputable def lX3_reducea_107 {d : Nat} (P : zP d) (j166 : zK d) (r107 : zK d) : zK d := (xild 8 (xild 1 (xcmpS tgeR rlGe rhS rlS rhLt (xincR 4 1 j166) (xild 8 (xild 4 (xjoin (bX3_reducea_157 P r107) (fun j157 => (xcmpS teqR rlEq rhEq rlNe rhNe j157 (xaldV 0 (xgfR 19 1 (xild 8 (xaaT (xild 5 (xalQ 0 (xif0S teqR rlEq rhEq rlNe rhNe j157 (xaldV 0 (xaldV 0 (xgfR 19 1 (xild 8 (xaaT (xaldV 0 (xgfR 19 1 (xild 8 (xaaT (xild 5 (xalQ 0 (cX3_reducea_151 P j157)))))))))))))))))))))))))))
set_option maxRecDepth 100000 in
set_option maxHeartbeats 4000000 in
theorem slX3_reducea_107 {d : Nat} [zGh] (P : zP d) (j166 : zK d) (r107 : zK d) (hj166 : zSimJ 4 X_X3_reduce 2 P 166 j166) (hr107 : zSimJ 5 X_X3_reduce 2 P 107 r107) : zSim X_X3_reduce 2 P 107 (lX3_reducea_107 P j166 r107) := by
  unfold lX3_reducea_107
  refine sm_iload (pc := 107) (n := 8) dX3_reduce_107 ?_
  refine sm_iload_n (pc := 109) (n := 1) dX3_reduce_109 rfl ?_
  refine sm_icmpS_ge (pc := 110) (tgt := 163) dX3_reduce_110 (by decide) ?_ ?_
  · skip
    refine sm_iincR (pc := 163) (n := 4) dX3_reduce_163 zc_i_1 ?_
    exact hj166.use
  · skip
    refine sm_iload (pc := 113) (n := 8) dX3_reduce_113 ?_
    refine sm_iload (pc := 115) (n := 4) dX3_reduce_115 ?_
    refine sm_joinJ (pc := 117) (pc' := 157) (j := 5) (fun G0 hG0 => @sbX3_reducea_157 d G0 P r107 (hr107.mv hG0 (by decide))) (fun j157 hj157 => ?_)
    refine sm_icmpS_eq (pc := 117) (tgt := 157) dX3_reduce_117 (by decide) ?_ ?_
    · skip
      exact hj157.use
    · skip
      refine sm_aloadV_n (pc := 120) (n := 0) dX3_reduce_120 rfl ?_
      refine gf_X3_15 (pc := 121) rfl dX3_reduce_121 ?_
      refine sm_iload (pc := 124) (n := 8) dX3_reduce_124 ?_
      refine sm_aaloadT (pc := 126) dX3_reduce_126 ?_
      refine sm_iload (pc := 127) (n := 5) dX3_reduce_127 ?_
      refine sm_ialoadQ (pc := 129) dX3_reduce_129 ?_
      refine sm_ifS_eq (pc := 130) (tgt := 157) dX3_reduce_130 (by decide) ?_ ?_
      · skip
        exact hj157.use
      · skip
        refine sm_aloadV_n (pc := 133) (n := 0) dX3_reduce_133 rfl ?_
        refine sm_aloadV_n (pc := 134) (n := 0) dX3_reduce_134 rfl ?_
        refine gf_X3_15 (pc := 135) rfl dX3_reduce_135 ?_
        refine sm_iload (pc := 138) (n := 8) dX3_reduce_138 ?_
        refine sm_aaloadT (pc := 140) dX3_reduce_140 ?_
        refine sm_aloadV_n (pc := 141) (n := 0) dX3_reduce_141 rfl ?_
        refine gf_X3_15 (pc := 142) rfl dX3_reduce_142 ?_
        refine sm_iload (pc := 145) (n := 8) dX3_reduce_145 ?_
        refine sm_aaloadT (pc := 147) dX3_reduce_147 ?_
        refine sm_iload (pc := 148) (n := 5) dX3_reduce_148 ?_
        refine sm_ialoadQ (pc := 150) dX3_reduce_150 ?_
        exact scX3_reducea_151 P j157 hj157
noncomputable def cX3_reducea_92 {d : Nat} (P : zP d) (j166 : zK d) : zK d := (xaldV 7 (xild 5 (xalQ 0 (xcV 19 2 0 0 (zstr f_X3_inverse) (xild 3 (xcV 19 4 0 0 (zstr f_X3_scalea) (xpI 0 (xist 8 (xlp 8 4 (hsL 1) wkE (fun r107 => (lX3_reducea_107 P j166 r107)))))))))))
set_option maxRecDepth 100000 in
set_option maxHeartbeats 4000000 in
theorem scX3_reducea_92 {d : Nat} [zGh] (P : zP d) (j166 : zK d) (hj166 : zSimJ 4 X_X3_reduce 2 P 166 j166) : zSim X_X3_reduce 2 P 92 (cX3_reducea_92 P j166) := by
  unfold cX3_reducea_92
  refine sm_aloadV (pc := 92) (n := 7) dX3_reduce_92 ?_
  refine sm_iload (pc := 94) (n := 5) dX3_reduce_94 ?_
  refine sm_ialoadQ (pc := 96) dX3_reduce_96 ?_
  refine sm_cV (pc := 97) (ci := 3) (n := 2) (mc := 0) (ms := 0) rfl (zMet_str m_X3_inverse) (cr_X3_24 (X := X_X3_reduce) (fr := 2) (frc := 1) (pc := 97) (mc := 0) (ms := 0) rfl (by decide) dX3_reduce_97) ?_
  refine sm_iload_n (pc := 100) (n := 3) dX3_reduce_100 rfl ?_
  refine sm_cV (pc := 101) (ci := 3) (n := 4) (mc := 0) (ms := 0) rfl (zMet_str m_X3_scalea) (cr_X3_28 (X := X_X3_reduce) (fr := 2) (frc := 1) (pc := 101) (mc := 0) (ms := 0) rfl (by decide) dX3_reduce_101) ?_
  refine sm_iconst (pc := 104) dX3_reduce_104 zc_i_0 ?_
  refine sm_istore (pc := 105) (n := 8) dX3_reduce_105 ?_
  exact sm_lp (i := 8) (j := 4) (by decide) (by decide) hsL_ok wkE_ok (fun G1 hG1 r107 hr107 => @slX3_reducea_107 d G1 P j166 r107 (hj166.mv hG1 (by decide)) hr107)
noncomputable def bX3_reducea_47 {d : Nat} (P : zP d) (r6 : zK d) : zK d := (xild 6 (xild 1 (xjoin (bX3_reducea_166 P r6) (fun j166 => (xcmpS teqR rlEq rhEq rlNe rhNe j166 (xaldV 0 (xgfR 19 1 (xild 6 (xaaT (xastV 7 (xaldV 0 (xgfR 19 1 (xild 6 (xaldV 0 (xgfR 19 1 (xild 4 (xaaT (xaasT (xaldV 0 (xgfR 19 1 (xild 4 (xaldV 7 (xaasT (xaldV 0 (xaldV 7 (xaldV 0 (cX3_reducea_92 P j166)))))))))))))))))))))))))))
set_option maxRecDepth 100000 in
set_option maxHeartbeats 4000000 in
theorem sbX3_reducea_47 {d : Nat} [zGh] (P : zP d) (r6 : zK d) (hr6 : zSimJ 2 X_X3_reduce 2 P 6 r6) : zSim X_X3_reduce 2 P 47 (bX3_reducea_47 P r6) := by
  unfold bX3_reducea_47
  refine sm_iload (pc := 47) (n := 6) dX3_reduce_47 ?_
  refine sm_iload_n (pc := 49) (n := 1) dX3_reduce_49 rfl ?_
  refine sm_joinJ (pc := 50) (pc' := 166) (j := 4) (fun G0 hG0 => @sbX3_reducea_166 d G0 P r6 (hr6.mv hG0 (by decide))) (fun j166 hj166 => ?_)
  refine sm_icmpS_ne (pc := 50) (tgt := 56) dX3_reduce_50 (by decide) ?_ ?_
  · skip
    refine sm_aloadV_n (pc := 56) (n := 0) dX3_reduce_56 rfl ?_
    refine gf_X3_15 (pc := 57) rfl dX3_reduce_57 ?_
    refine sm_iload (pc := 60) (n := 6) dX3_reduce_60 ?_
    refine sm_aaloadT (pc := 62) dX3_reduce_62 ?_
    refine sm_astoreV (pc := 63) (n := 7) dX3_reduce_63 ?_
    refine sm_aloadV_n (pc := 65) (n := 0) dX3_reduce_65 rfl ?_
    refine gf_X3_15 (pc := 66) rfl dX3_reduce_66 ?_
    refine sm_iload (pc := 69) (n := 6) dX3_reduce_69 ?_
    refine sm_aloadV_n (pc := 71) (n := 0) dX3_reduce_71 rfl ?_
    refine gf_X3_15 (pc := 72) rfl dX3_reduce_72 ?_
    refine sm_iload (pc := 75) (n := 4) dX3_reduce_75 ?_
    refine sm_aaloadT (pc := 77) dX3_reduce_77 ?_
    refine sm_aastoreT (pc := 78) dX3_reduce_78 ?_
    refine sm_aloadV_n (pc := 79) (n := 0) dX3_reduce_79 rfl ?_
    refine gf_X3_15 (pc := 80) rfl dX3_reduce_80 ?_
    refine sm_iload (pc := 83) (n := 4) dX3_reduce_83 ?_
    refine sm_aloadV (pc := 85) (n := 7) dX3_reduce_85 ?_
    refine sm_aastoreT (pc := 87) dX3_reduce_87 ?_
    refine sm_aloadV_n (pc := 88) (n := 0) dX3_reduce_88 rfl ?_
    refine sm_aloadV (pc := 89) (n := 7) dX3_reduce_89 ?_
    refine sm_aloadV_n (pc := 91) (n := 0) dX3_reduce_91 rfl ?_
    exact scX3_reducea_92 P j166 hj166
  · skip
    refine sm_goto (pc := 53) (tgt := 166) dX3_reduce_53 (by decide) ?_
    exact hj166.use
noncomputable def lX3_reducea_22 {d : Nat} (P : zP d) (r22 : zK d) (r6 : zK d) : zK d := (xild 6 (xild 1 (xjoin (bX3_reducea_47 P r6) (fun j47 => (xcmpS tgeR rlGe rhS rlS rhLt j47 (xaldV 0 (xgfR 19 1 (xild 6 (xaaT (xild 5 (xalQ 0 (xif0S teqR rlEq rhEq rlNe rhNe (xincR 6 1 r22) j47))))))))))))
set_option maxRecDepth 100000 in
set_option maxHeartbeats 4000000 in
theorem slX3_reducea_22 {d : Nat} [zGh] (P : zP d) (r22 : zK d) (r6 : zK d) (hr22 : zSimJ 4 X_X3_reduce 2 P 22 r22) (hr6 : zSimJ 2 X_X3_reduce 2 P 6 r6) : zSim X_X3_reduce 2 P 22 (lX3_reducea_22 P r22 r6) := by
  unfold lX3_reducea_22
  refine sm_iload (pc := 22) (n := 6) dX3_reduce_22 ?_
  refine sm_iload_n (pc := 24) (n := 1) dX3_reduce_24 rfl ?_
  refine sm_joinJ (pc := 25) (pc' := 47) (j := 4) (fun G0 hG0 => @sbX3_reducea_47 d G0 P r6 (hr6.mv hG0 (by decide))) (fun j47 hj47 => ?_)
  refine sm_icmpS_ge (pc := 25) (tgt := 47) dX3_reduce_25 (by decide) ?_ ?_
  · skip
    exact hj47.use
  · skip
    refine sm_aloadV_n (pc := 28) (n := 0) dX3_reduce_28 rfl ?_
    refine gf_X3_15 (pc := 29) rfl dX3_reduce_29 ?_
    refine sm_iload (pc := 32) (n := 6) dX3_reduce_32 ?_
    refine sm_aaloadT (pc := 34) dX3_reduce_34 ?_
    refine sm_iload (pc := 35) (n := 5) dX3_reduce_35 ?_
    refine sm_ialoadQ (pc := 37) dX3_reduce_37 ?_
    refine sm_ifS_ne (pc := 38) (tgt := 47) dX3_reduce_38 (by decide) ?_ ?_
    · skip
      exact hj47.use
    · skip
      refine sm_iincR (pc := 41) (n := 6) dX3_reduce_41 zc_i_1 ?_
      refine sm_goto (pc := 44) (tgt := 22) dX3_reduce_44 (by decide) ?_
      exact hr22.use
noncomputable def yX3_reducea_12 {d : Nat} (P : zP d) (j172 : zK d) (r6 : zK d) : zK d := (xild 4 (xild 1 (xcmpS tgeR rlGe rhS rlS rhLt j172 (xild 4 (xist 6 (xlp 6 3 (hsL 1) wkE (fun r22 => (lX3_reducea_22 P r22 r6))))))))
set_option maxRecDepth 100000 in
set_option maxHeartbeats 4000000 in
theorem syX3_reducea_12 {d : Nat} [zGh] (P : zP d) (j172 : zK d) (r6 : zK d) (hj172 : zSimJ 2 X_X3_reduce 2 P 172 j172) (hr6 : zSimJ 2 X_X3_reduce 2 P 6 r6) : zSim X_X3_reduce 2 P 12 (yX3_reducea_12 P j172 r6) := by
  unfold yX3_reducea_12
  refine sm_iload (pc := 12) (n := 4) dX3_reduce_12 ?_
  refine sm_iload_n (pc := 14) (n := 1) dX3_reduce_14 rfl ?_
  refine sm_icmpS_ge (pc := 15) (tgt := 172) dX3_reduce_15 (by decide) ?_ ?_
  · skip
    exact hj172.use
  · skip
    refine sm_iload (pc := 18) (n := 4) dX3_reduce_18 ?_
    refine sm_istore (pc := 20) (n := 6) dX3_reduce_20 ?_
    exact sm_lp (i := 6) (j := 3) (by decide) (by decide) hsL_ok wkE_ok (fun G1 hG1 r22 hr22 => @slX3_reducea_22 d G1 P r22 r6 hr22 (hr6.mv hG1 (by decide)))
noncomputable def lX3_reducea_6 {d : Nat} (P : zP d) (r6 : zK d) : zK d := (xild 5 (xild 2 (xjn (wkB 4 1 (wkU 5 wkE)) (zsp [] 2) (bX3_reducea_172 P) (fun j172 => (xcmpS tgeR rlGe rhS rlS rhLt j172 (xsym 4 2 (yX3_reducea_12 P j172 r6)))))))
set_option maxRecDepth 100000 in
set_option maxHeartbeats 4000000 in
theorem slX3_reducea_6 {d : Nat} [zGh] (P : zP d) (r6 : zK d) (hr6 : zSimJ 2 X_X3_reduce 2 P 6 r6) : zSim X_X3_reduce 2 P 6 (lX3_reducea_6 P r6) := by
  unfold lX3_reducea_6
  refine sm_iload (pc := 6) (n := 5) dX3_reduce_6 ?_
  refine sm_iload_n (pc := 8) (n := 2) dX3_reduce_8 rfl ?_
  refine sm_jn (pc := 9) (pc' := 172) (j := 2) (wkB_ok (wkU_ok wkE_ok)) (zsp_ok _ _) (fun G0 hG0 => @sbX3_reducea_172 d G0 P) (fun j172 hj172 => ?_)
  refine sm_icmpS_ge (pc := 9) (tgt := 172) dX3_reduce_9 (by decide) ?_ ?_
  · skip
    exact hj172.use
  · skip
    exact sm_sym (i := 4) (j := 2) (by decide) (fun G1 hG1 => @syX3_reducea_12 d G1 P j172 r6 (hj172.mv hG1 (by decide)) (hr6.mv hG1 (by decide)))
noncomputable def b_X3_reducea {d : Nat} (P : zP d) : zK d := (xpI 0 (xist 4 (xpI 0 (xist 5 (xlp 5 1 (hsL 2) (wkB 4 1 (wkR 0 [1] 4294967296 (wk12 0 [1] wkE))) (fun r6 => (lX3_reducea_6 P r6)))))))
set_option maxRecDepth 100000 in
set_option maxHeartbeats 4000000 in
theorem s_X3_reducea {d : Nat} [zGh] (P : zP d) : zSim X_X3_reduce 2 P 0 (b_X3_reducea P) := by
  unfold b_X3_reducea
  refine sm_iconst (pc := 0) dX3_reduce_0 zc_i_0 ?_
  refine sm_istore (pc := 1) (n := 4) dX3_reduce_1 ?_
  refine sm_iconst (pc := 3) dX3_reduce_3 zc_i_0 ?_
  refine sm_istore (pc := 4) (n := 5) dX3_reduce_4 ?_
  exact sm_lp (i := 5) (j := 1) (by decide) (by decide) hsL_ok (wkB_ok (wkR_ok (wk12_ok wkE_ok))) (fun G1 hG1 r6 hr6 => @slX3_reducea_6 d G1 P r6 hr6)
noncomputable def f_X3_reducea {d : Nat} : List zV → zH d → zP d → Bool := zfn 9 b_X3_reducea
theorem m_X3_reducea {d : Nat} : zMet (d := d) X_X3_reduce yX3_reduce 2 f_X3_reducea := zmet_mk (X := X_X3_reduce) (by decide) rfl rfl s_X3_reducea

