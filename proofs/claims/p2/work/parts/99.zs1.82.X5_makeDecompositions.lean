/-! the class by summaries, by program -/
noncomputable def bX5_makeDecompositionsa_209 {d : Nat} (P : zP d) (r149 : zK d) : zK d := (xincR 4 1 r149)
set_option maxRecDepth 100000 in
set_option maxHeartbeats 4000000 in
theorem sbX5_makeDecompositionsa_209 {d : Nat} [zGh] (P : zP d) (r149 : zK d) (hr149 : zSimJ 1 X_X5_makeDecompositions 3 P 149 r149) : zSim X_X5_makeDecompositions 3 P 209 (bX5_makeDecompositionsa_209 P r149) := by
  unfold bX5_makeDecompositionsa_209
  refine sm_iincR (pc := 209) (n := 4) dX5_makeDecompositions_209 zc_i_1 ?_
  refine sm_goto (pc := 212) (tgt := 149) dX5_makeDecompositions_212 (by decide) ?_
  exact hr149.use
noncomputable def lX5_makeDecompositionsa_167 {d : Nat} (P : zP d) (j209 : zK d) (r167 : zK d) : zK d := (xild 5 (xild 1 (xcmpS tgeR rlGe rhS rlS rhLt j209 (xald 0 (xgfR 21 7 (xild 5 (xaaT (xild 4 (xald 2 (xgfR 19 1 (xald 0 (xgfR 21 2 (xild 4 (xalQ 0 (xaaT (xald 0 (xgfI 21 3 (xild 5 (xbin zaddR (xalQ 0 (xasQ 0 (fun v => v) (xincR 5 1 r167))))))))))))))))))))))
set_option maxRecDepth 100000 in
set_option maxHeartbeats 4000000 in
theorem slX5_makeDecompositionsa_167 {d : Nat} [zGh] (P : zP d) (j209 : zK d) (r167 : zK d) (hj209 : zSimJ 1 X_X5_makeDecompositions 3 P 209 j209) (hr167 : zSimJ 1 X_X5_makeDecompositions 3 P 167 r167) : zSim X_X5_makeDecompositions 3 P 167 (lX5_makeDecompositionsa_167 P j209 r167) := by
  unfold lX5_makeDecompositionsa_167
  refine sm_iload (pc := 167) (n := 5) dX5_makeDecompositions_167 ?_
  refine sm_iload_n (pc := 169) (n := 1) dX5_makeDecompositions_169 rfl ?_
  refine sm_icmpS_ge (pc := 170) (tgt := 209) dX5_makeDecompositions_170 (by decide) ?_ ?_
  · skip
    exact hj209.use
  · skip
    refine sm_aload_n (pc := 173) (n := 0) dX5_makeDecompositions_173 rfl ?_
    refine gf_X5_46 (pc := 174) rfl dX5_makeDecompositions_174 ?_
    refine sm_iload (pc := 177) (n := 5) dX5_makeDecompositions_177 ?_
    refine sm_aaloadT (pc := 179) dX5_makeDecompositions_179 ?_
    refine sm_iload (pc := 180) (n := 4) dX5_makeDecompositions_180 ?_
    refine sm_aload_n (pc := 182) (n := 2) dX5_makeDecompositions_182 rfl ?_
    refine gf_X5_165 (pc := 183) rfl dX5_makeDecompositions_183 ?_
    refine sm_aload_n (pc := 186) (n := 0) dX5_makeDecompositions_186 rfl ?_
    refine gf_X5_24 (pc := 187) rfl dX5_makeDecompositions_187 ?_
    refine sm_iload (pc := 190) (n := 4) dX5_makeDecompositions_190 ?_
    refine sm_ialoadQ (pc := 192) dX5_makeDecompositions_192 ?_
    refine sm_aaloadT (pc := 193) dX5_makeDecompositions_193 ?_
    refine sm_aload_n (pc := 194) (n := 0) dX5_makeDecompositions_194 rfl ?_
    refine gf_X5_89 (pc := 195) rfl dX5_makeDecompositions_195 ?_
    refine sm_iload (pc := 198) (n := 5) dX5_makeDecompositions_198 ?_
    refine sm_iaddR (pc := 200) dX5_makeDecompositions_200 ?_
    refine sm_ialoadQ (pc := 201) dX5_makeDecompositions_201 ?_
    refine sm_iastoreQ (pc := 202) dX5_makeDecompositions_202 ?_
    refine sm_iincR (pc := 203) (n := 5) dX5_makeDecompositions_203 zc_i_1 ?_
    refine sm_goto (pc := 206) (tgt := 167) dX5_makeDecompositions_206 (by decide) ?_
    exact hr167.use
noncomputable def lX5_makeDecompositionsa_149 {d : Nat} (P : zP d) (r149 : zK d) : zK d := (xild 4 (xild 1 (xcmpS tgeR rlGe rhS rlS rhLt (xvret P) (xald 0 (xild 4 (xcV 21 2 0 0 (zstr f_X5_isRegular) (xjoin (bX5_makeDecompositionsa_209 P r149) (fun j209 => (xif0S teqR rlEq rhEq rlNe rhNe j209 (xpI 0 (xist 5 (xloop (fun r167 => (lX5_makeDecompositionsa_167 P j209 r167)) 100000))))))))))))
set_option maxRecDepth 100000 in
set_option maxHeartbeats 4000000 in
theorem slX5_makeDecompositionsa_149 {d : Nat} [zGh] (P : zP d) (r149 : zK d) (hr149 : zSimJ 1 X_X5_makeDecompositions 3 P 149 r149) : zSim X_X5_makeDecompositions 3 P 149 (lX5_makeDecompositionsa_149 P r149) := by
  unfold lX5_makeDecompositionsa_149
  refine sm_iload (pc := 149) (n := 4) dX5_makeDecompositions_149 ?_
  refine sm_iload_n (pc := 151) (n := 1) dX5_makeDecompositions_151 rfl ?_
  refine sm_icmpS_ge (pc := 152) (tgt := 215) dX5_makeDecompositions_152 (by decide) ?_ ?_
  · skip
    exact sm_vreturn (pc := 215) dX5_makeDecompositions_215 rfl
  · skip
    refine sm_aload_n (pc := 155) (n := 0) dX5_makeDecompositions_155 rfl ?_
    refine sm_iload (pc := 156) (n := 4) dX5_makeDecompositions_156 ?_
    refine sm_cV (pc := 158) (ci := 5) (n := 2) (mc := 0) (ms := 0) rfl (zMet_str m_X5_isRegular) (cr_X5_117 (X := X_X5_makeDecompositions) (fr := 3) (frc := 1) (pc := 158) (mc := 0) (ms := 0) rfl (by decide) dX5_makeDecompositions_158) ?_
    refine sm_joinJ (pc := 161) (pc' := 209) (j := 1) (fun G0 hG0 => @sbX5_makeDecompositionsa_209 d G0 P r149 (hr149.mv hG0 (by decide))) (fun j209 hj209 => ?_)
    refine sm_ifS_eq (pc := 161) (tgt := 209) dX5_makeDecompositions_161 (by decide) ?_ ?_
    · skip
      exact hj209.use
    · skip
      refine sm_iconst (pc := 164) dX5_makeDecompositions_164 zc_i_0 ?_
      refine sm_istore (pc := 165) (n := 5) dX5_makeDecompositions_165 ?_
      exact (sm_loopJ (j := 1) (fun G1 hG1 r167 hr167 => @slX5_makeDecompositionsa_167 d G1 P j209 r167 (hj209.mv hG1 (by decide)) hr167) _).use
noncomputable def bX5_makeDecompositionsa_124 {d : Nat} (P : zP d) (r31 : zK d) : zK d := (xincR 4 1 r31)
set_option maxRecDepth 100000 in
set_option maxHeartbeats 4000000 in
theorem sbX5_makeDecompositionsa_124 {d : Nat} [zGh] (P : zP d) (r31 : zK d) (hr31 : zSimJ 1 X_X5_makeDecompositions 3 P 31 r31) : zSim X_X5_makeDecompositions 3 P 124 (bX5_makeDecompositionsa_124 P r31) := by
  unfold bX5_makeDecompositionsa_124
  refine sm_iincR (pc := 124) (n := 4) dX5_makeDecompositions_124 zc_i_1 ?_
  refine sm_goto (pc := 127) (tgt := 31) dX5_makeDecompositions_127 (by decide) ?_
  exact hr31.use
noncomputable def bX5_makeDecompositionsa_115 {d : Nat} (P : zP d) (r53 : zK d) : zK d := (xincR 5 1 r53)
set_option maxRecDepth 100000 in
set_option maxHeartbeats 4000000 in
theorem sbX5_makeDecompositionsa_115 {d : Nat} [zGh] (P : zP d) (r53 : zK d) (hr53 : zSimJ 1 X_X5_makeDecompositions 3 P 53 r53) : zSim X_X5_makeDecompositions 3 P 115 (bX5_makeDecompositionsa_115 P r53) := by
  unfold bX5_makeDecompositionsa_115
  refine sm_iincR (pc := 115) (n := 5) dX5_makeDecompositions_115 zc_i_1 ?_
  refine sm_goto (pc := 118) (tgt := 53) dX5_makeDecompositions_118 (by decide) ?_
  exact hr53.use
noncomputable def cX5_makeDecompositionsa_96 {d : Nat} (P : zP d) (j115 : zK d) : zK d := (xgfR 21 2 (xild 5 (xalQ 0 (xald 0 (xgfR 21 6 (xild 5 (xaaT (xild 4 (xalQ 0 (xcV 19 4 0 0 (zstr f_X3_seta) j115))))))))))
set_option maxRecDepth 100000 in
set_option maxHeartbeats 4000000 in
theorem scX5_makeDecompositionsa_96 {d : Nat} [zGh] (P : zP d) (j115 : zK d) (hj115 : zSimJ 1 X_X5_makeDecompositions 3 P 115 j115) : zSim X_X5_makeDecompositions 3 P 96 (cX5_makeDecompositionsa_96 P j115) := by
  unfold cX5_makeDecompositionsa_96
  refine gf_X5_24 (pc := 96) rfl dX5_makeDecompositions_96 ?_
  refine sm_iload (pc := 99) (n := 5) dX5_makeDecompositions_99 ?_
  refine sm_ialoadQ (pc := 101) dX5_makeDecompositions_101 ?_
  refine sm_aload_n (pc := 102) (n := 0) dX5_makeDecompositions_102 rfl ?_
  refine gf_X5_40 (pc := 103) rfl dX5_makeDecompositions_103 ?_
  refine sm_iload (pc := 106) (n := 5) dX5_makeDecompositions_106 ?_
  refine sm_aaloadT (pc := 108) dX5_makeDecompositions_108 ?_
  refine sm_iload (pc := 109) (n := 4) dX5_makeDecompositions_109 ?_
  refine sm_ialoadQ (pc := 111) dX5_makeDecompositions_111 ?_
  refine sm_cV (pc := 112) (ci := 3) (n := 4) (mc := 0) (ms := 0) rfl (zMet_str m_X3_seta) (cr_X5_132 (X := X_X5_makeDecompositions) (fr := 3) (frc := 1) (pc := 112) (mc := 0) (ms := 0) rfl (by decide) dX5_makeDecompositions_112) ?_
  exact hj115.use
noncomputable def lX5_makeDecompositionsa_53 {d : Nat} (P : zP d) (j124 : zK d) (r53 : zK d) : zK d := (xild 5 (xild 1 (xcmpS tgeR rlGe rhS rlS rhLt (xincR 3 1 j124) (xald 2 (xild 3 (xald 0 (xgfI 21 3 (xild 5 (xbin zaddR (xald 0 (xgfR 21 0 (xgfR 23 12 (xild 5 (xaaT (xild 4 (xalQ 0 (xcV 19 4 0 0 (zstr f_X3_seta) (xald 0 (xild 5 (xcV 21 2 0 0 (zstr f_X5_isRegular) (xjoin (bX5_makeDecompositionsa_115 P r53) (fun j115 => (xif0S teqR rlEq rhEq rlNe rhNe j115 (xald 2 (xild 3 (xald 0 (cX5_makeDecompositionsa_96 P j115)))))))))))))))))))))))))))
set_option maxRecDepth 100000 in
set_option maxHeartbeats 4000000 in
theorem slX5_makeDecompositionsa_53 {d : Nat} [zGh] (P : zP d) (j124 : zK d) (r53 : zK d) (hj124 : zSimJ 1 X_X5_makeDecompositions 3 P 124 j124) (hr53 : zSimJ 1 X_X5_makeDecompositions 3 P 53 r53) : zSim X_X5_makeDecompositions 3 P 53 (lX5_makeDecompositionsa_53 P j124 r53) := by
  unfold lX5_makeDecompositionsa_53
  refine sm_iload (pc := 53) (n := 5) dX5_makeDecompositions_53 ?_
  refine sm_iload_n (pc := 55) (n := 1) dX5_makeDecompositions_55 rfl ?_
  refine sm_icmpS_ge (pc := 56) (tgt := 121) dX5_makeDecompositions_56 (by decide) ?_ ?_
  · skip
    refine sm_iincR (pc := 121) (n := 3) dX5_makeDecompositions_121 zc_i_1 ?_
    exact hj124.use
  · skip
    refine sm_aload_n (pc := 59) (n := 2) dX5_makeDecompositions_59 rfl ?_
    refine sm_iload_n (pc := 60) (n := 3) dX5_makeDecompositions_60 rfl ?_
    refine sm_aload_n (pc := 61) (n := 0) dX5_makeDecompositions_61 rfl ?_
    refine gf_X5_89 (pc := 62) rfl dX5_makeDecompositions_62 ?_
    refine sm_iload (pc := 65) (n := 5) dX5_makeDecompositions_65 ?_
    refine sm_iaddR (pc := 67) dX5_makeDecompositions_67 ?_
    refine sm_aload_n (pc := 68) (n := 0) dX5_makeDecompositions_68 rfl ?_
    refine gf_X5_9 (pc := 69) rfl dX5_makeDecompositions_69 ?_
    refine gf_X5_129 (pc := 72) rfl dX5_makeDecompositions_72 ?_
    refine sm_iload (pc := 75) (n := 5) dX5_makeDecompositions_75 ?_
    refine sm_aaloadT (pc := 77) dX5_makeDecompositions_77 ?_
    refine sm_iload (pc := 78) (n := 4) dX5_makeDecompositions_78 ?_
    refine sm_ialoadQ (pc := 80) dX5_makeDecompositions_80 ?_
    refine sm_cV (pc := 81) (ci := 3) (n := 4) (mc := 0) (ms := 0) rfl (zMet_str m_X3_seta) (cr_X5_132 (X := X_X5_makeDecompositions) (fr := 3) (frc := 1) (pc := 81) (mc := 0) (ms := 0) rfl (by decide) dX5_makeDecompositions_81) ?_
    refine sm_aload_n (pc := 84) (n := 0) dX5_makeDecompositions_84 rfl ?_
    refine sm_iload (pc := 85) (n := 5) dX5_makeDecompositions_85 ?_
    refine sm_cV (pc := 87) (ci := 5) (n := 2) (mc := 0) (ms := 0) rfl (zMet_str m_X5_isRegular) (cr_X5_117 (X := X_X5_makeDecompositions) (fr := 3) (frc := 1) (pc := 87) (mc := 0) (ms := 0) rfl (by decide) dX5_makeDecompositions_87) ?_
    refine sm_joinJ (pc := 90) (pc' := 115) (j := 1) (fun G0 hG0 => @sbX5_makeDecompositionsa_115 d G0 P r53 (hr53.mv hG0 (by decide))) (fun j115 hj115 => ?_)
    refine sm_ifS_eq (pc := 90) (tgt := 115) dX5_makeDecompositions_90 (by decide) ?_ ?_
    · skip
      exact hj115.use
    · skip
      refine sm_aload_n (pc := 93) (n := 2) dX5_makeDecompositions_93 rfl ?_
      refine sm_iload_n (pc := 94) (n := 3) dX5_makeDecompositions_94 rfl ?_
      refine sm_aload_n (pc := 95) (n := 0) dX5_makeDecompositions_95 rfl ?_
      exact scX5_makeDecompositionsa_96 P j115 hj115
noncomputable def lX5_makeDecompositionsa_31 {d : Nat} (P : zP d) (r31 : zK d) : zK d := (xild 4 (xild 1 (xcmpS tgeR rlGe rhS rlS rhLt (xald 2 (xild 3 (xald 0 (xgfI 21 3 (xald 0 (xgfI 21 3 (xild 1 (xbin zaddR (xcV 19 4 0 0 (zstr f_X3_reducea) (xpop (xpI 0 (xist 4 (xloop (fun r149 => (lX5_makeDecompositionsa_149 P r149)) 100000))))))))))))) (xald 0 (xgfR 21 4 (xild 4 (xalQ 1 (xjoin (bX5_makeDecompositionsa_124 P r31) (fun j124 => (xif0S teqR rlEq rhEq rlNe rhNe j124 (xpI 0 (xist 5 (xloop (fun r53 => (lX5_makeDecompositionsa_53 P j124 r53)) 100000)))))))))))))
set_option maxRecDepth 100000 in
set_option maxHeartbeats 4000000 in
theorem slX5_makeDecompositionsa_31 {d : Nat} [zGh] (P : zP d) (r31 : zK d) (hr31 : zSimJ 1 X_X5_makeDecompositions 3 P 31 r31) : zSim X_X5_makeDecompositions 3 P 31 (lX5_makeDecompositionsa_31 P r31) := by
  unfold lX5_makeDecompositionsa_31
  refine sm_iload (pc := 31) (n := 4) dX5_makeDecompositions_31 ?_
  refine sm_iload_n (pc := 33) (n := 1) dX5_makeDecompositions_33 rfl ?_
  refine sm_icmpS_ge (pc := 34) (tgt := 130) dX5_makeDecompositions_34 (by decide) ?_ ?_
  · skip
    refine sm_aload_n (pc := 130) (n := 2) dX5_makeDecompositions_130 rfl ?_
    refine sm_iload_n (pc := 131) (n := 3) dX5_makeDecompositions_131 rfl ?_
    refine sm_aload_n (pc := 132) (n := 0) dX5_makeDecompositions_132 rfl ?_
    refine gf_X5_89 (pc := 133) rfl dX5_makeDecompositions_133 ?_
    refine sm_aload_n (pc := 136) (n := 0) dX5_makeDecompositions_136 rfl ?_
    refine gf_X5_89 (pc := 137) rfl dX5_makeDecompositions_137 ?_
    refine sm_iload_n (pc := 140) (n := 1) dX5_makeDecompositions_140 rfl ?_
    refine sm_iaddR (pc := 141) dX5_makeDecompositions_141 ?_
    refine sm_cV (pc := 142) (ci := 3) (n := 4) (mc := 0) (ms := 0) rfl (zMet_str m_X3_reducea) (cr_X5_135 (X := X_X5_makeDecompositions) (fr := 3) (frc := 2) (pc := 142) (mc := 0) (ms := 0) rfl (by decide) dX5_makeDecompositions_142) ?_
    refine sm_pop (pc := 145) dX5_makeDecompositions_145 ?_
    refine sm_iconst (pc := 146) dX5_makeDecompositions_146 zc_i_0 ?_
    refine sm_istore (pc := 147) (n := 4) dX5_makeDecompositions_147 ?_
    exact (sm_loopJ (j := 1) (fun G1 hG1 r149 hr149 => @slX5_makeDecompositionsa_149 d G1 P r149 hr149) _).use
  · skip
    refine sm_aload_n (pc := 37) (n := 0) dX5_makeDecompositions_37 rfl ?_
    refine gf_X5_28 (pc := 38) rfl dX5_makeDecompositions_38 ?_
    refine sm_iload (pc := 41) (n := 4) dX5_makeDecompositions_41 ?_
    refine sm_baloadQ (pc := 43) dX5_makeDecompositions_43 ?_
    refine sm_joinJ (pc := 44) (pc' := 124) (j := 1) (fun G0 hG0 => @sbX5_makeDecompositionsa_124 d G0 P r31 (hr31.mv hG0 (by decide))) (fun j124 hj124 => ?_)
    refine sm_ifS_ne (pc := 44) (tgt := 50) dX5_makeDecompositions_44 (by decide) ?_ ?_
    · skip
      refine sm_iconst (pc := 50) dX5_makeDecompositions_50 zc_i_0 ?_
      refine sm_istore (pc := 51) (n := 5) dX5_makeDecompositions_51 ?_
      exact (sm_loopJ (j := 1) (fun G1 hG1 r53 hr53 => @slX5_makeDecompositionsa_53 d G1 P j124 r53 (hj124.mv hG1 (by decide)) hr53) _).use
    · skip
      refine sm_goto (pc := 47) (tgt := 124) dX5_makeDecompositions_47 (by decide) ?_
      exact hj124.use
noncomputable def b_X5_makeDecompositionsa {d : Nat} (P : zP d) : zK d := (xald 0 (xgfR 21 0 (xgfI 23 1 (xist 1 (xnew 19 2 (xdup (xpI 10007 (xild 1 (xald 0 (xgfI 21 3 (xild 1 (xbin zaddR (xcV 19 4 20 300 (zstr f_X3_init) (xast 2 (xwk (wkR 2 [1] 4294967296 (wk12 2 [1] wkE)) (xpI 0 (xist 3 (xpI 0 (xist 4 (xloop (fun r31 => (lX5_makeDecompositionsa_31 P r31)) 100000))))))))))))))))))))
set_option maxRecDepth 100000 in
set_option maxHeartbeats 4000000 in
theorem s_X5_makeDecompositionsa {d : Nat} [zGh] (P : zP d) : zSim X_X5_makeDecompositions 3 P 0 (b_X5_makeDecompositionsa P) := by
  unfold b_X5_makeDecompositionsa
  refine sm_aload_n (pc := 0) (n := 0) dX5_makeDecompositions_0 rfl ?_
  refine gf_X5_9 (pc := 1) rfl dX5_makeDecompositions_1 ?_
  refine gf_X5_19 (pc := 4) rfl dX5_makeDecompositions_4 ?_
  refine sm_istore_n (pc := 7) (n := 1) dX5_makeDecompositions_7 rfl ?_
  refine sm_new (pc := 8) (ci := 3) (C := RX3) (T := TX3) (N := 2) (ty0 := tyX3) rfl rfl (by decide) (by decide) inz3 tyX3_ok rfl wd_345 wd_346 wd_10 dX5_makeDecompositions_8 ?_
  refine sm_dup (pc := 11) dX5_makeDecompositions_11 ?_
  refine sm_sipush (pc := 12) dX5_makeDecompositions_12 zc_s_10007 ?_
  refine sm_iload_n (pc := 15) (n := 1) dX5_makeDecompositions_15 rfl ?_
  refine sm_aload_n (pc := 16) (n := 0) dX5_makeDecompositions_16 rfl ?_
  refine gf_X5_89 (pc := 17) rfl dX5_makeDecompositions_17 ?_
  refine sm_iload_n (pc := 20) (n := 1) dX5_makeDecompositions_20 rfl ?_
  refine sm_iaddR (pc := 21) dX5_makeDecompositions_21 ?_
  refine sm_cV (pc := 22) (ci := 3) (n := 4) (mc := 20) (ms := 300) rfl (zMet_str m_X3_init) (cr_X5_107 (X := X_X5_makeDecompositions) (fr := 3) (frc := 1) (pc := 22) (mc := 20) (ms := 300) rfl (by decide) dX5_makeDecompositions_22) ?_
  refine sm_astore_n (pc := 25) (n := 2) dX5_makeDecompositions_25 rfl ?_
  refine sm_wk (wkR_ok (wk12_ok wkE_ok)) ?_
  refine sm_iconst (pc := 26) dX5_makeDecompositions_26 zc_i_0 ?_
  refine sm_istore_n (pc := 27) (n := 3) dX5_makeDecompositions_27 rfl ?_
  refine sm_iconst (pc := 28) dX5_makeDecompositions_28 zc_i_0 ?_
  refine sm_istore (pc := 29) (n := 4) dX5_makeDecompositions_29 ?_
  exact (sm_loopJ (j := 1) (fun G1 hG1 r31 hr31 => @slX5_makeDecompositionsa_31 d G1 P r31 hr31) _).use
noncomputable def f_X5_makeDecompositionsa {d : Nat} : List zV → zH d → zP d → Bool := zfn 6 b_X5_makeDecompositionsa
theorem m_X5_makeDecompositionsa {d : Nat} : zMet (d := d) X_X5_makeDecompositions yX5_makeDecompositions 3 f_X5_makeDecompositionsa := zmet_mk (X := X_X5_makeDecompositions) (by decide) rfl rfl s_X5_makeDecompositionsa

