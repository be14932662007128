/-! the class by summaries, by program -/
noncomputable def lX5_makeDeterminantsa_102 {d : Nat} (P : zP d) (r102 : zK d) (r92 : zK d) : zK d := (xild 6 (xild 4 (xcmpS tgeR rlGe rhS rlS rhLt (xincR 5 1 r92) (xald 1 (xild 5 (xaaT (xild 6 (xald 0 (xgfR 21 8 (xald 2 (xild 5 (xalQ 0 (xaaT (xald 2 (xild 6 (xalQ 0 (xalQ 0 (xi2l (xlas (xincR 6 1 r102))))))))))))))))))))
set_option maxRecDepth 100000 in
set_option maxHeartbeats 4000000 in
theorem slX5_makeDeterminantsa_102 {d : Nat} [zGh] (P : zP d) (r102 : zK d) (r92 : zK d) (hr102 : zSimJ 1 X_X5_makeDeterminants 2 P 102 r102) (hr92 : zSimJ 1 X_X5_makeDeterminants 2 P 92 r92) : zSim X_X5_makeDeterminants 2 P 102 (lX5_makeDeterminantsa_102 P r102 r92) := by
  unfold lX5_makeDeterminantsa_102
  refine sm_iload (pc := 102) (n := 6) dX5_makeDeterminants_102 ?_
  refine sm_iload (pc := 104) (n := 4) dX5_makeDeterminants_104 ?_
  refine sm_icmpS_ge (pc := 106) (tgt := 137) dX5_makeDeterminants_106 (by decide) ?_ ?_
  · skip
    refine sm_iincR (pc := 137) (n := 5) dX5_makeDeterminants_137 zc_i_1 ?_
    refine sm_goto (pc := 140) (tgt := 92) dX5_makeDeterminants_140 (by decide) ?_
    exact hr92.use
  · skip
    refine sm_aload_n (pc := 109) (n := 1) dX5_makeDeterminants_109 rfl ?_
    refine sm_iload (pc := 110) (n := 5) dX5_makeDeterminants_110 ?_
    refine sm_aaloadT (pc := 112) dX5_makeDeterminants_112 ?_
    refine sm_iload (pc := 113) (n := 6) dX5_makeDeterminants_113 ?_
    refine sm_aload_n (pc := 115) (n := 0) dX5_makeDeterminants_115 rfl ?_
    refine gf_X5_52 (pc := 116) rfl dX5_makeDeterminants_116 ?_
    refine sm_aload_n (pc := 119) (n := 2) dX5_makeDeterminants_119 rfl ?_
    refine sm_iload (pc := 120) (n := 5) dX5_makeDeterminants_120 ?_
    refine sm_ialoadQ (pc := 122) dX5_makeDeterminants_122 ?_
    refine sm_aaloadT (pc := 123) dX5_makeDeterminants_123 ?_
    refine sm_aload_n (pc := 124) (n := 2) dX5_makeDeterminants_124 rfl ?_
    refine sm_iload (pc := 125) (n := 6) dX5_makeDeterminants_125 ?_
    refine sm_ialoadQ (pc := 127) dX5_makeDeterminants_127 ?_
    refine sm_ialoadQ (pc := 128) dX5_makeDeterminants_128 ?_
    refine sm_i2l (pc := 129) dX5_makeDeterminants_129 ?_
    refine sm_lastore (pc := 130) dX5_makeDeterminants_130 ?_
    refine sm_iincR (pc := 131) (n := 6) dX5_makeDeterminants_131 zc_i_1 ?_
    refine sm_goto (pc := 134) (tgt := 102) dX5_makeDeterminants_134 (by decide) ?_
    exact hr102.use
noncomputable def lX5_makeDeterminantsa_92 {d : Nat} (P : zP d) (r22 : zK d) (r92 : zK d) : zK d := (xild 5 (xild 4 (xcmpS tgeR rlGe rhS rlS rhLt (xald 0 (xgfR 21 11 (xild 3 (xald 1 (xild 4 (xcS 2 0 0 (zstr f_X5_determinanta) (xl2i (xasQ 0 (fun v => v) (xincR 3 1 r22))))))))) (xpI 0 (xist 6 (xloop (fun r102 => (lX5_makeDeterminantsa_102 P r102 r92)) 100000))))))
set_option maxRecDepth 100000 in
set_option maxHeartbeats 4000000 in
theorem slX5_makeDeterminantsa_92 {d : Nat} [zGh] (P : zP d) (r22 : zK d) (r92 : zK d) (hr22 : zSimJ 1 X_X5_makeDeterminants 2 P 22 r22) (hr92 : zSimJ 1 X_X5_makeDeterminants 2 P 92 r92) : zSim X_X5_makeDeterminants 2 P 92 (lX5_makeDeterminantsa_92 P r22 r92) := by
  unfold lX5_makeDeterminantsa_92
  refine sm_iload (pc := 92) (n := 5) dX5_makeDeterminants_92 ?_
  refine sm_iload (pc := 94) (n := 4) dX5_makeDeterminants_94 ?_
  refine sm_icmpS_ge (pc := 96) (tgt := 143) dX5_makeDeterminants_96 (by decide) ?_ ?_
  · skip
    refine sm_aload_n (pc := 143) (n := 0) dX5_makeDeterminants_143 rfl ?_
    refine gf_X5_74 (pc := 144) rfl dX5_makeDeterminants_144 ?_
    refine sm_iload_n (pc := 147) (n := 3) dX5_makeDeterminants_147 rfl ?_
    refine sm_aload_n (pc := 148) (n := 1) dX5_makeDeterminants_148 rfl ?_
    refine sm_iload (pc := 149) (n := 4) dX5_makeDeterminants_149 ?_
    refine sm_cS (pc := 151) (n := 2) (mc := 0) (ms := 0) (zMet_str m_X5_determinanta) (cr_X5_173 (X := X_X5_makeDeterminants) (fr := 2) (frc := 1) (pc := 151) (mc := 0) (ms := 0) rfl (by decide) dX5_makeDeterminants_151) ?_
    refine sm_l2i (pc := 154) dX5_makeDeterminants_154 ?_
    refine sm_iastoreQ (pc := 155) dX5_makeDeterminants_155 ?_
    refine sm_iincR (pc := 156) (n := 3) dX5_makeDeterminants_156 zc_i_1 ?_
    refine sm_goto (pc := 159) (tgt := 22) dX5_makeDeterminants_159 (by decide) ?_
    exact hr22.use
  · skip
    refine sm_iconst (pc := 99) dX5_makeDeterminants_99 zc_i_0 ?_
    refine sm_istore (pc := 100) (n := 6) dX5_makeDeterminants_100 ?_
    exact (sm_loopJ (j := 1) (fun G1 hG1 r102 hr102 => @slX5_makeDeterminantsa_102 d G1 P r102 r92 hr102 (hr92.mv hG1 (by decide))) _).use
noncomputable def bX5_makeDeterminantsa_83 {d : Nat} (P : zP d) (r39 : zK d) : zK d := (xincR 5 1 r39)
set_option maxRecDepth 100000 in
set_option maxHeartbeats 4000000 in
theorem sbX5_makeDeterminantsa_83 {d : Nat} [zGh] (P : zP d) (r39 : zK d) (hr39 : zSimJ 1 X_X5_makeDeterminants 2 P 39 r39) : zSim X_X5_makeDeterminants 2 P 83 (bX5_makeDeterminantsa_83 P r39) := by
  unfold bX5_makeDeterminantsa_83
  refine sm_iincR (pc := 83) (n := 5) dX5_makeDeterminants_83 zc_i_1 ?_
  refine sm_goto (pc := 86) (tgt := 39) dX5_makeDeterminants_86 (by decide) ?_
  exact hr39.use
noncomputable def lX5_makeDeterminantsa_39 {d : Nat} (P : zP d) (r22 : zK d) (r39 : zK d) : zK d := (xild 5 (xald 0 (xgfR 21 0 (xgfI 23 1 (xcmpS tgeR rlGe rhS rlS rhLt (xpI 0 (xist 5 (xloop (fun r92 => (lX5_makeDeterminantsa_92 P r22 r92)) 100000))) (xald 0 (xild 5 (xcV 21 2 0 0 (zstr f_X5_isRegular) (xjoin (bX5_makeDeterminantsa_83 P r39) (fun j83 => (xif0S teqR rlEq rhEq rlNe rhNe j83 (xald 0 (xgfR 21 10 (xgfR 16 2 (xild 5 (xalQ 0 (xild 3 (xcmpS teqR rlEq rhEq rlNe rhNe (xald 2 (xild 4 (xild 5 (xasQ 0 (fun v => v) (xincR 4 1 j83))))) j83))))))))))))))))))
set_option maxRecDepth 100000 in
set_option maxHeartbeats 4000000 in
theorem slX5_makeDeterminantsa_39 {d : Nat} [zGh] (P : zP d) (r22 : zK d) (r39 : zK d) (hr22 : zSimJ 1 X_X5_makeDeterminants 2 P 22 r22) (hr39 : zSimJ 1 X_X5_makeDeterminants 2 P 39 r39) : zSim X_X5_makeDeterminants 2 P 39 (lX5_makeDeterminantsa_39 P r22 r39) := by
  unfold lX5_makeDeterminantsa_39
  refine sm_iload (pc := 39) (n := 5) dX5_makeDeterminants_39 ?_
  refine sm_aload_n (pc := 41) (n := 0) dX5_makeDeterminants_41 rfl ?_
  refine gf_X5_9 (pc := 42) rfl dX5_makeDeterminants_42 ?_
  refine gf_X5_19 (pc := 45) rfl dX5_makeDeterminants_45 ?_
  refine sm_icmpS_ge (pc := 48) (tgt := 89) dX5_makeDeterminants_48 (by decide) ?_ ?_
  · skip
    refine sm_iconst (pc := 89) dX5_makeDeterminants_89 zc_i_0 ?_
    refine sm_istore (pc := 90) (n := 5) dX5_makeDeterminants_90 ?_
    exact (sm_loopJ (j := 1) (fun G1 hG1 r92 hr92 => @slX5_makeDeterminantsa_92 d G1 P r22 r92 (hr22.mv hG1 (by decide)) hr92) _).use
  · skip
    refine sm_aload_n (pc := 51) (n := 0) dX5_makeDeterminants_51 rfl ?_
    refine sm_iload (pc := 52) (n := 5) dX5_makeDeterminants_52 ?_
    refine sm_cV (pc := 54) (ci := 5) (n := 2) (mc := 0) (ms := 0) rfl (zMet_str m_X5_isRegular) (cr_X5_117 (X := X_X5_makeDeterminants) (fr := 2) (frc := 1) (pc := 54) (mc := 0) (ms := 0) rfl (by decide) dX5_makeDeterminants_54) ?_
    refine sm_joinJ (pc := 57) (pc' := 83) (j := 1) (fun G0 hG0 => @sbX5_makeDeterminantsa_83 d G0 P r39 (hr39.mv hG0 (by decide))) (fun j83 hj83 => ?_)
    refine sm_ifS_eq (pc := 57) (tgt := 83) dX5_makeDeterminants_57 (by decide) ?_ ?_
    · skip
      exact hj83.use
    · skip
      refine sm_aload_n (pc := 60) (n := 0) dX5_makeDeterminants_60 rfl ?_
      refine gf_X5_69 (pc := 61) rfl dX5_makeDeterminants_61 ?_
      refine gf_X5_170 (pc := 64) rfl dX5_makeDeterminants_64 ?_
      refine sm_iload (pc := 67) (n := 5) dX5_makeDeterminants_67 ?_
      refine sm_ialoadQ (pc := 69) dX5_makeDeterminants_69 ?_
      refine sm_iload_n (pc := 70) (n := 3) dX5_makeDeterminants_70 rfl ?_
      refine sm_icmpS_ne (pc := 71) (tgt := 83) dX5_makeDeterminants_71 (by decide) ?_ ?_
      · skip
        exact hj83.use
      · skip
        refine sm_aload_n (pc := 74) (n := 2) dX5_makeDeterminants_74 rfl ?_
        refine sm_iload (pc := 75) (n := 4) dX5_makeDeterminants_75 ?_
        refine sm_iload (pc := 77) (n := 5) dX5_makeDeterminants_77 ?_
        refine sm_iastoreQ (pc := 79) dX5_makeDeterminants_79 ?_
        refine sm_iincR (pc := 80) (n := 4) dX5_makeDeterminants_80 zc_i_1 ?_
        exact hj83.use
noncomputable def lX5_makeDeterminantsa_22 {d : Nat} (P : zP d) (r22 : zK d) : zK d := (xild 3 (xald 0 (xgfR 21 10 (xgfI 16 3 (xcmpS tgeR rlGe rhS rlS rhLt (xvret P) (xpI 0 (xist 4 (xpI 0 (xist 5 (xloop (fun r39 => (lX5_makeDeterminantsa_39 P r22 r39)) 100000))))))))))
set_option maxRecDepth 100000 in
set_option maxHeartbeats 4000000 in
theorem slX5_makeDeterminantsa_22 {d : Nat} [zGh] (P : zP d) (r22 : zK d) (hr22 : zSimJ 1 X_X5_makeDeterminants 2 P 22 r22) : zSim X_X5_makeDeterminants 2 P 22 (lX5_makeDeterminantsa_22 P r22) := by
  unfold lX5_makeDeterminantsa_22
  refine sm_iload_n (pc := 22) (n := 3) dX5_makeDeterminants_22 rfl ?_
  refine sm_aload_n (pc := 23) (n := 0) dX5_makeDeterminants_23 rfl ?_
  refine gf_X5_69 (pc := 24) rfl dX5_makeDeterminants_24 ?_
  refine gf_X5_73 (pc := 27) rfl dX5_makeDeterminants_27 ?_
  refine sm_icmpS_ge (pc := 30) (tgt := 162) dX5_makeDeterminants_30 (by decide) ?_ ?_
  · skip
    exact sm_vreturn (pc := 162) dX5_makeDeterminants_162 rfl
  · skip
    refine sm_iconst (pc := 33) dX5_makeDeterminants_33 zc_i_0 ?_
    refine sm_istore (pc := 34) (n := 4) dX5_makeDeterminants_34 ?_
    refine sm_iconst (pc := 36) dX5_makeDeterminants_36 zc_i_0 ?_
    refine sm_istore (pc := 37) (n := 5) dX5_makeDeterminants_37 ?_
    exact (sm_loopJ (j := 1) (fun G1 hG1 r39 hr39 => @slX5_makeDeterminantsa_39 d G1 P r22 r39 (hr22.mv hG1 (by decide)) hr39) _).use
noncomputable def b_X5_makeDeterminantsa {d : Nat} (P : zP d) : zK d := (xald 0 (xgfI 21 3 (xald 0 (xgfI 21 3 (xmnaD 4 2 (xast 1 (xald 0 (xgfI 21 3 (xnwa 0 (xast 2 (xpI 0 (xist 3 (xloop (fun r22 => (lX5_makeDeterminantsa_22 P r22)) 100000)))))))))))))
set_option maxRecDepth 100000 in
set_option maxHeartbeats 4000000 in
theorem s_X5_makeDeterminantsa {d : Nat} [zGh] (P : zP d) : zSim X_X5_makeDeterminants 2 P 0 (b_X5_makeDeterminantsa P) := by
  unfold b_X5_makeDeterminantsa
  refine sm_aload_n (pc := 0) (n := 0) dX5_makeDeterminants_0 rfl ?_
  refine gf_X5_89 (pc := 1) rfl dX5_makeDeterminants_1 ?_
  refine sm_aload_n (pc := 4) (n := 0) dX5_makeDeterminants_4 rfl ?_
  refine gf_X5_89 (pc := 5) rfl dX5_makeDeterminants_5 ?_
  refine sm_mnaDJ (pc := 8) wd_483 wd_45 dX5_makeDeterminants_8 ?_
  refine sm_astore_n (pc := 12) (n := 1) dX5_makeDeterminants_12 rfl ?_
  refine sm_aload_n (pc := 13) (n := 0) dX5_makeDeterminants_13 rfl ?_
  refine gf_X5_89 (pc := 14) rfl dX5_makeDeterminants_14 ?_
  refine sm_newI (pc := 17) dX5_makeDeterminants_17 wd_46 ?_
  refine sm_astore_n (pc := 19) (n := 2) dX5_makeDeterminants_19 rfl ?_
  refine sm_iconst (pc := 20) dX5_makeDeterminants_20 zc_i_0 ?_
  refine sm_istore_n (pc := 21) (n := 3) dX5_makeDeterminants_21 rfl ?_
  exact (sm_loopJ (j := 1) (fun G1 hG1 r22 hr22 => @slX5_makeDeterminantsa_22 d G1 P r22 hr22) _).use
noncomputable def f_X5_makeDeterminantsa {d : Nat} : List zV → zH d → zP d → Bool := zfn 7 b_X5_makeDeterminantsa
theorem m_X5_makeDeterminantsa {d : Nat} : zMet (d := d) X_X5_makeDeterminants yX5_makeDeterminants 2 f_X5_makeDeterminantsa := zmet_mk (X := X_X5_makeDeterminants) (by decide) rfl rfl s_X5_makeDeterminantsa

