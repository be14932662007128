/-! the class by summaries, by program -/
noncomputable def bX5_determinanta_134 {d : Nat} (P : zP d) : zK d := (xlret P)
set_option maxRecDepth 100000 in
set_option maxHeartbeats 4000000 in
theorem sbX5_determinanta_134 {d : Nat} [zGh] (P : zP d) : zSim X_X5_determinant 1 P 134 (bX5_determinanta_134 P) := by
  unfold bX5_determinanta_134
  exact sm_lreturn (pc := 134) dX5_determinant_134 rfl
noncomputable def bX5_determinanta_90 {d : Nat} (P : zP d) (r31 : zK d) : zK d := (xlas (xincR 6 1 r31))
set_option maxRecDepth 100000 in
set_option maxHeartbeats 4000000 in
theorem sbX5_determinanta_90 {d : Nat} [zGh] (P : zP d) (r31 : zK d) (hr31 : zSimJ 1 X_X5_determinant 1 P 31 r31) : zSim X_X5_determinant 1 P 90 (bX5_determinanta_90 P r31) := by
  unfold bX5_determinanta_90
  refine sm_lastore (pc := 90) dX5_determinant_90 ?_
  refine sm_iincR (pc := 91) (n := 6) dX5_determinant_91 zc_i_1 ?_
  refine sm_goto (pc := 94) (tgt := 31) dX5_determinant_94 (by decide) ?_
  exact hr31.use
noncomputable def cX5_determinanta_66 {d : Nat} (P : zP d) (r31 : zK d) : zK d := (xbinj zmulj (xbinj zsubj (xlst 7 (xald 0 (xild 5 (xaaT (xild 6 (xjn wkE (zsp [zL 18446744073709551616] 0) (bX5_determinanta_90 P r31) (fun j90 => (xlz 2 (xpL 0 j90) (xlld 7 (xlld 2 (xdvT j90)))))))))))))
set_option maxRecDepth 100000 in
set_option maxHeartbeats 4000000 in
theorem scX5_determinanta_66 {d : Nat} [zGh] (P : zP d) (r31 : zK d) (hr31 : zSimJ 1 X_X5_determinant 1 P 31 r31) : zSim X_X5_determinant 1 P 66 (cX5_determinanta_66 P r31) := by
  unfold cX5_determinanta_66
  refine sm_lmul (pc := 66) dX5_determinant_66 ?_
  refine sm_lsub (pc := 67) dX5_determinant_67 ?_
  refine sm_lstore (pc := 68) (n := 7) dX5_determinant_68 ?_
  refine sm_aload_n (pc := 70) (n := 0) dX5_determinant_70 rfl ?_
  refine sm_iload (pc := 71) (n := 5) dX5_determinant_71 ?_
  refine sm_aaloadT (pc := 73) dX5_determinant_73 ?_
  refine sm_iload (pc := 74) (n := 6) dX5_determinant_74 ?_
  refine sm_jn (pc := 76) (pc' := 90) (j := 1) wkE_ok (zsp_ok _ _) (fun G0 hG0 => @sbX5_determinanta_90 d G0 P r31 (hr31.mv hG0 (by decide))) (fun j90 hj90 => ?_)
  refine sm_lz_n (pc := 76) (n := 2) (tgt := 89) dX5_determinant_76 rfl dX5_determinant_77 rfl dX5_determinant_78 dX5_determinant_79 (by decide) ?_ ?_
  · skip
    refine sm_lconst (pc := 89) dX5_determinant_89 zc_l_0 ?_
    exact hj90.use
  · skip
    refine sm_lload (pc := 82) (n := 7) dX5_determinant_82 ?_
    refine sm_lload_n (pc := 84) (n := 2) dX5_determinant_84 rfl ?_
    refine sm_ldivT (pc := 85) dX5_determinant_85 ?_
    refine sm_goto (pc := 86) (tgt := 90) dX5_determinant_86 (by decide) ?_
    exact hj90.use
noncomputable def lX5_determinanta_31 {d : Nat} (P : zP d) (r19 : zK d) (r31 : zK d) : zK d := (xild 6 (xild 1 (xcmpS tgeR rlGe rhS rlS rhLt (xincR 5 1 r19) (xald 0 (xild 5 (xaaT (xild 6 (xlal (xald 0 (xild 4 (xaaT (xild 4 (xlal (xbinj zmulj (xald 0 (xild 5 (xaaT (xild 4 (xlal (xald 0 (xild 4 (xaaT (xild 6 (xlal (cX5_determinanta_66 P r31)))))))))))))))))))))))))
set_option maxRecDepth 100000 in
set_option maxHeartbeats 4000000 in
theorem slX5_determinanta_31 {d : Nat} [zGh] (P : zP d) (r19 : zK d) (r31 : zK d) (hr19 : zSimJ 1 X_X5_determinant 1 P 19 r19) (hr31 : zSimJ 1 X_X5_determinant 1 P 31 r31) : zSim X_X5_determinant 1 P 31 (lX5_determinanta_31 P r19 r31) := by
  unfold lX5_determinanta_31
  refine sm_iload (pc := 31) (n := 6) dX5_determinant_31 ?_
  refine sm_iload_n (pc := 33) (n := 1) dX5_determinant_33 rfl ?_
  refine sm_icmpS_ge (pc := 34) (tgt := 97) dX5_determinant_34 (by decide) ?_ ?_
  · skip
    refine sm_iincR (pc := 97) (n := 5) dX5_determinant_97 zc_i_1 ?_
    refine sm_goto (pc := 100) (tgt := 19) dX5_determinant_100 (by decide) ?_
    exact hr19.use
  · skip
    refine sm_aload_n (pc := 37) (n := 0) dX5_determinant_37 rfl ?_
    refine sm_iload (pc := 38) (n := 5) dX5_determinant_38 ?_
    refine sm_aaloadT (pc := 40) dX5_determinant_40 ?_
    refine sm_iload (pc := 41) (n := 6) dX5_determinant_41 ?_
    refine sm_laload (pc := 43) dX5_determinant_43 ?_
    refine sm_aload_n (pc := 44) (n := 0) dX5_determinant_44 rfl ?_
    refine sm_iload (pc := 45) (n := 4) dX5_determinant_45 ?_
    refine sm_aaloadT (pc := 47) dX5_determinant_47 ?_
    refine sm_iload (pc := 48) (n := 4) dX5_determinant_48 ?_
    refine sm_laload (pc := 50) dX5_determinant_50 ?_
    refine sm_lmul (pc := 51) dX5_determinant_51 ?_
    refine sm_aload_n (pc := 52) (n := 0) dX5_determinant_52 rfl ?_
    refine sm_iload (pc := 53) (n := 5) dX5_determinant_53 ?_
    refine sm_aaloadT (pc := 55) dX5_determinant_55 ?_
    refine sm_iload (pc := 56) (n := 4) dX5_determinant_56 ?_
    refine sm_laload (pc := 58) dX5_determinant_58 ?_
    refine sm_aload_n (pc := 59) (n := 0) dX5_determinant_59 rfl ?_
    refine sm_iload (pc := 60) (n := 4) dX5_determinant_60 ?_
    refine sm_aaloadT (pc := 62) dX5_determinant_62 ?_
    refine sm_iload (pc := 63) (n := 6) dX5_determinant_63 ?_
    refine sm_laload (pc := 65) dX5_determinant_65 ?_
    exact scX5_determinanta_66 P r31 hr31
noncomputable def lX5_determinanta_19 {d : Nat} (P : zP d) (r19 : zK d) (r5 : zK d) : zK d := (xild 5 (xild 1 (xcmpS tgeR rlGe rhS rlS rhLt (xald 0 (xild 4 (xaaT (xild 4 (xlal (xlst 2 (xincR 4 1 r5))))))) (xild 4 (xpI 1 (xbin zaddR (xist 6 (xloop (fun r31 => (lX5_determinanta_31 P r19 r31)) 100000))))))))
set_option maxRecDepth 100000 in
set_option maxHeartbeats 4000000 in
theorem slX5_determinanta_19 {d : Nat} [zGh] (P : zP d) (r19 : zK d) (r5 : zK d) (hr19 : zSimJ 1 X_X5_determinant 1 P 19 r19) (hr5 : zSimJ 1 X_X5_determinant 1 P 5 r5) : zSim X_X5_determinant 1 P 19 (lX5_determinanta_19 P r19 r5) := by
  unfold lX5_determinanta_19
  refine sm_iload (pc := 19) (n := 5) dX5_determinant_19 ?_
  refine sm_iload_n (pc := 21) (n := 1) dX5_determinant_21 rfl ?_
  refine sm_icmpS_ge (pc := 22) (tgt := 103) dX5_determinant_22 (by decide) ?_ ?_
  · skip
    refine sm_aload_n (pc := 103) (n := 0) dX5_determinant_103 rfl ?_
    refine sm_iload (pc := 104) (n := 4) dX5_determinant_104 ?_
    refine sm_aaloadT (pc := 106) dX5_determinant_106 ?_
    refine sm_iload (pc := 107) (n := 4) dX5_determinant_107 ?_
    refine sm_laload (pc := 109) dX5_determinant_109 ?_
    refine sm_lstore_n (pc := 110) (n := 2) dX5_determinant_110 rfl ?_
    refine sm_iincR (pc := 111) (n := 4) dX5_determinant_111 zc_i_1 ?_
    refine sm_goto (pc := 114) (tgt := 5) dX5_determinant_114 (by decide) ?_
    exact hr5.use
  · skip
    refine sm_iload (pc := 25) (n := 4) dX5_determinant_25 ?_
    refine sm_iconst (pc := 27) dX5_determinant_27 zc_i_1 ?_
    refine sm_iaddR (pc := 28) dX5_determinant_28 ?_
    refine sm_istore (pc := 29) (n := 6) dX5_determinant_29 ?_
    exact (sm_loopJ (j := 1) (fun G1 hG1 r31 hr31 => @slX5_determinanta_31 d G1 P r19 r31 (hr19.mv hG1 (by decide)) hr31) _).use
noncomputable def lX5_determinanta_5 {d : Nat} (P : zP d) (r5 : zK d) : zK d := (xild 4 (xpI 1 (xbin zaddR (xild 1 (xcmpS tgeR rlGe rhS rlS rhLt (xild 1 (xjoin (bX5_determinanta_134 P) (fun j134 => (xif0S tleR rlS rhLe rlGt rhS (xpL 1 j134) (xald 0 (xild 1 (xpI 1 (xbin zsubR (xaaT (xild 1 (xpI 1 (xbin zsubR (xlal j134))))))))))))) (xild 4 (xpI 1 (xbin zaddR (xist 5 (xloop (fun r19 => (lX5_determinanta_19 P r19 r5)) 100000))))))))))
set_option maxRecDepth 100000 in
set_option maxHeartbeats 4000000 in
theorem slX5_determinanta_5 {d : Nat} [zGh] (P : zP d) (r5 : zK d) (hr5 : zSimJ 1 X_X5_determinant 1 P 5 r5) : zSim X_X5_determinant 1 P 5 (lX5_determinanta_5 P r5) := by
  unfold lX5_determinanta_5
  refine sm_iload (pc := 5) (n := 4) dX5_determinant_5 ?_
  refine sm_iconst (pc := 7) dX5_determinant_7 zc_i_1 ?_
  refine sm_iaddR (pc := 8) dX5_determinant_8 ?_
  refine sm_iload_n (pc := 9) (n := 1) dX5_determinant_9 rfl ?_
  refine sm_icmpS_ge (pc := 10) (tgt := 117) dX5_determinant_10 (by decide) ?_ ?_
  · skip
    refine sm_iload_n (pc := 117) (n := 1) dX5_determinant_117 rfl ?_
    refine sm_joinJ (pc := 118) (pc' := 134) (j := 1) (fun G0 hG0 => @sbX5_determinanta_134 d G0 P) (fun j134 hj134 => ?_)
    refine sm_ifS_le (pc := 118) (tgt := 133) dX5_determinant_118 (by decide) ?_ ?_
    · skip
      refine sm_lconst (pc := 133) dX5_determinant_133 zc_l_1 ?_
      exact hj134.use
    · skip
      refine sm_aload_n (pc := 121) (n := 0) dX5_determinant_121 rfl ?_
      refine sm_iload_n (pc := 122) (n := 1) dX5_determinant_122 rfl ?_
      refine sm_iconst (pc := 123) dX5_determinant_123 zc_i_1 ?_
      refine sm_isubR (pc := 124) dX5_determinant_124 ?_
      refine sm_aaloadT (pc := 125) dX5_determinant_125 ?_
      refine sm_iload_n (pc := 126) (n := 1) dX5_determinant_126 rfl ?_
      refine sm_iconst (pc := 127) dX5_determinant_127 zc_i_1 ?_
      refine sm_isubR (pc := 128) dX5_determinant_128 ?_
      refine sm_laload (pc := 129) dX5_determinant_129 ?_
      refine sm_goto (pc := 130) (tgt := 134) dX5_determinant_130 (by decide) ?_
      exact hj134.use
  · skip
    refine sm_iload (pc := 13) (n := 4) dX5_determinant_13 ?_
    refine sm_iconst (pc := 15) dX5_determinant_15 zc_i_1 ?_
    refine sm_iaddR (pc := 16) dX5_determinant_16 ?_
    refine sm_istore (pc := 17) (n := 5) dX5_determinant_17 ?_
    exact (sm_loopJ (j := 1) (fun G1 hG1 r19 hr19 => @slX5_determinanta_19 d G1 P r19 r5 hr19 (hr5.mv hG1 (by decide))) _).use
noncomputable def b_X5_determinanta {d : Nat} (P : zP d) : zK d := (xpL 1 (xlst 2 (xpI 0 (xist 4 (xloop (fun r5 => (lX5_determinanta_5 P r5)) 100000)))))
set_option maxRecDepth 100000 in
set_option maxHeartbeats 4000000 in
theorem s_X5_determinanta {d : Nat} [zGh] (P : zP d) : zSim X_X5_determinant 1 P 0 (b_X5_determinanta P) := by
  unfold b_X5_determinanta
  refine sm_lconst (pc := 0) dX5_determinant_0 zc_l_1 ?_
  refine sm_lstore_n (pc := 1) (n := 2) dX5_determinant_1 rfl ?_
  refine sm_iconst (pc := 2) dX5_determinant_2 zc_i_0 ?_
  refine sm_istore (pc := 3) (n := 4) dX5_determinant_3 ?_
  exact (sm_loopJ (j := 1) (fun G1 hG1 r5 hr5 => @slX5_determinanta_5 d G1 P r5 hr5) _).use
noncomputable def f_X5_determinanta {d : Nat} : List zV → zH d → zP d → Bool := zfn 9 b_X5_determinanta
theorem m_X5_determinanta {d : Nat} : zMet (d := d) X_X5_determinant yX5_determinant 1 f_X5_determinanta := zmet_mk (X := X_X5_determinant) (by decide) rfl rfl s_X5_determinanta

