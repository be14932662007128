section
/-! the class by summaries, by program -/
noncomputable def bX5_makeDecompositionsa_209 {d : Nat} (P : zP d) (r149 : zK d) : zK d := (xincR 4 1 r149)
set_option maxRecDepth 100000 in
set_option maxHeartbeats 4000000 in
theorem sbX5_makeDecompositionsa_209 {d : Nat} [zGh] (P : zP d) (r149 : zK d) (hr149 : zSimJ 1 X_X5_makeDecompositions 3 P 149 r149) : zSim X_X5_makeDecompositions 3 P 209 (bX5_makeDecompositionsa_209 P r149) := by
  unfold bX5_makeDecompositionsa_209
  refine sm_iincR (pc := 209) (n := 4) dX5_makeDecompositions_209 zc_i_1 ?_
  refine sm_goto (pc := 212) (tgt := 149) dX5_makeDecompositions_212 (by decide) ?_
  exact hr149.use
noncomputable def lX5_makeDecompositionsa_167 {d : Nat} (P : zP d) (j209 : zK d) (r167 : zK d) : zK d := (xild 5 (xild 1 (xcmpS tgeR rlGe rhS rlS rhLt j209 (xald 0 (xgfR 21 7 (xild 5 (xaaT (xild 4 (xald 2 (xgfR 19 1 (xald 0 (xgfR 21 2 (xild 4 (xalQ 0 (xaaT (xald 0 (xgfI 21 3 (xild 5 (xbin zaddR (xalQ 0 (xasQ 0 (fun v => v) (xincR 5 1 r167))))))))))))))))))))))
set_option maxRecDepth 100000 in
set_option maxHeartbeats 4000000 in
theorem slX5_makeDecompositionsa_167 {d : Nat} [zGh] (P : zP d) (j209 : zK d) (r167 : zK d) (hj209 : zSimJ 1 X_X5_makeDecompositions 3 P 209 j209) (hr167 : zSimJ 1 X_X5_makeDecompositions 3 P 167 r167) : zSim X_X5_makeDecompositions 3 P 167 (lX5_makeDecompositionsa_167 P j209 r167) := by
  unfold lX5_makeDecompositionsa_167
  refine sm_iload (pc := 167) (n := 5) dX5_makeDecompositions_167 ?_
  refine sm_iload_n (pc := 169) (n := 1) dX5_makeDecompositions_169 rfl ?_
  refine sm_icmpS_ge (pc := 170) (tgt := 209) dX5_makeDecompositions_170 (by decide) ?_ ?_
  · skip
    exact hj209.use
  · skip
    refine sm_aload_n (pc := 173) (n := 0) dX5_makeDecompositions_173 rfl ?_
    refine gf_X5_46 (pc := 174) rfl dX5_makeDecompositions_174 ?_
    refine sm_iload (pc := 177) (n := 5) dX5_makeDecompositions_177 ?_
    refine sm_aaloadT (pc := 179) dX5_makeDecompositions_179 ?_
    refine sm_iload (pc := 180) (n := 4) dX5_makeDecompositions_180 ?_
    refine sm_aload_n (pc := 182) (n := 2) dX5_makeDecompositions_182 rfl ?_
    refine gf_X5_165 (pc := 183) rfl dX5_makeDecompositions_183 ?_
    refine sm_aload_n (pc := 186) (n := 0) dX5_makeDecompositions_186 rfl ?_
    refine gf_X5_24 (pc := 187) rfl dX5_makeDecompositions_187 ?_
    refine sm_iload (pc := 190) (n := 4) dX5_makeDecompositions_190 ?_
    refine sm_ialoadQ (pc := 192) dX5_makeDecompositions_192 ?_
    refine sm_aaloadT (pc := 193) dX5_makeDecompositions_193 ?_
    refine sm_aload_n (pc := 194) (n := 0) dX5_makeDecompositions_194 rfl ?_
    refine gf_X5_89 (pc := 195) rfl dX5_makeDecompositions_195 ?_
    refine sm_iload (pc := 198) (n := 5) dX5_makeDecompositions_198 ?_
    refine sm_iaddR (pc := 200) dX5_makeDecompositions_200 ?_
    refine sm_ialoadQ (pc := 201) dX5_makeDecompositions_201 ?_
    refine sm_iastoreQ (pc := 202) dX5_makeDecompositions_202 ?_
    refine sm_iincR (pc := 203) (n := 5) dX5_makeDecompositions_203 zc_i_1 ?_
    refine sm_goto (pc := 206) (tgt := 167) dX5_makeDecompositions_206 (by decide) ?_
    exact hr167.use
noncomputable def lX5_makeDecompositionsa_149 {d : Nat} (P : zP d) (r149 : zK d) : zK d := (xild 4 (xild 1 (xcmpS tgeR rlGe rhS rlS rhLt (xvret P) (xald 0 (xild 4 (xcV 21 2 0 0 (zstr f_X5_isRegular) (xjoin (bX5_makeDecompositionsa_209 P r149) (fun j209 => (xif0S teqR rlEq rhEq rlNe rhNe j209 (xpI 0 (xist 5 (xloop (fun r167 => (lX5_makeDecompositionsa_167 P j209 r167)) 100000))))))))))))
set_option maxRecDepth 100000 in
set_option maxHeartbeats 4000000 in
theorem slX5_makeDecompositionsa_149 {d : Nat} [zGh] (P : zP d) (r149 : zK d) (hr149 : zSimJ 1 X_X5_makeDecompositions 3 P 149 r149) : zSim X_X5_makeDecompositions 3 P 149 (lX5_makeDecompositionsa_149 P r149) := by
  unfold lX5_makeDecompositionsa_149
  refine sm_iload (pc := 149) (n := 4) dX5_makeDecompositions_149 ?_
  refine sm_iload_n (pc := 151) (n := 1) dX5_makeDecompositions_151 rfl ?_
  refine sm_icmpS_ge (pc := 152) (tgt := 215) dX5_makeDecompositions_152 (by decide) ?_ ?_
  · skip
    exact sm_vreturn (pc := 215) dX5_makeDecompositions_215 rfl
  · skip
    refine sm_aload_n (pc := 155) (n := 0) dX5_makeDecompositions_155 rfl ?_
    refine sm_iload (pc := 156) (n := 4) dX5_makeDecompositions_156 ?_
    refine sm_cV (pc := 158) (ci := 5) (n := 2) (mc := 0) (ms := 0) rfl (zMet_str m_X5_isRegular) (cr_X5_117 (X := X_X5_makeDecompositions) (fr := 3) (frc := 1) (pc := 158) (mc := 0) (ms := 0) rfl (by decide) dX5_makeDecompositions_158) ?_
    refine sm_joinJ (pc := 161) (pc' := 209) (j := 1) (fun G0 hG0 => @sbX5_makeDecompositionsa_209 d G0 P r149 (hr149.mv hG0 (by decide))) (fun j209 hj209 => ?_)
    refine sm_ifS_eq (pc := 161) (tgt := 209) dX5_makeDecompositions_161 (by decide) ?_ ?_
    · skip
      exact hj209.use
    · skip
      refine sm_iconst (pc := 164) dX5_makeDecompositions_164 zc_i_0 ?_
      refine sm_istore (pc := 165) (n := 5) dX5_makeDecompositions_165 ?_
      exact (sm_loopJ (j := 1) (fun G1 hG1 r167 hr167 => @slX5_makeDecompositionsa_167 d G1 P j209 r167 (hj209.mv hG1 (by decide)) hr167) _).use
noncomputable def bX5_makeDecompositionsa_124 {d : Nat} (P : zP d) (r31 : zK d) : zK d := (xincR 4 1 r31)
set_option maxRecDepth 100000 in
set_option maxHeartbeats 4000000 in
theorem sbX5_makeDecompositionsa_124 {d : Nat} [zGh] (P : zP d) (r31 : zK d) (hr31 : zSimJ 1 X_X5_makeDecompositions 3 P 31 r31) : zSim X_X5_makeDecompositions 3 P 124 (bX5_makeDecompositionsa_124 P r31) := by
  unfold bX5_makeDecompositionsa_124
  refine sm_iincR (pc := 124) (n := 4) dX5_makeDecompositions_124 zc_i_1 ?_
  refine sm_goto (pc := 127) (tgt := 31) dX5_makeDecompositions_127 (by decide) ?_
  exact hr31.use
noncomputable def bX5_makeDecompositionsa_115 {d : Nat} (P : zP d) (r53 : zK d) : zK d := (xincR 5 1 r53)
set_option maxRecDepth 100000 in
set_option maxHeartbeats 4000000 in
theorem sbX5_makeDecompositionsa_115 {d : Nat} [zGh] (P : zP d) (r53 : zK d) (hr53 : zSimJ 1 X_X5_makeDecompositions 3 P 53 r53) : zSim X_X5_makeDecompositions 3 P 115 (bX5_makeDecompositionsa_115 P r53) := by
  unfold bX5_makeDecompositionsa_115
  refine sm_iincR (pc := 115) (n := 5) dX5_makeDecompositions_115 zc_i_1 ?_
  refine sm_goto (pc := 118) (tgt := 53) dX5_makeDecompositions_118 (by decide) ?_
  exact hr53.use
noncomputable def cX5_makeDecompositionsa_96 {d : Nat} (P : zP d) (j115 : zK d) : zK d := (xgfR 21 2 (xild 5 (xalQ 0 (xald 0 (xgfR 21 6 (xild 5 (xaaT (xild 4 (xalQ 0 (xcV 19 4 0 0 (zstr f_X3_seta) j115))))))))))
set_option maxRecDepth 100000 in
set_option maxHeartbeats 4000000 in
theorem scX5_makeDecompositionsa_96 {d : Nat} [zGh] (P : zP d) (j115 : zK d) (hj115 : zSimJ 1 X_X5_makeDecompositions 3 P 115 j115) : zSim X_X5_makeDecompositions 3 P 96 (cX5_makeDecompositionsa_96 P j115) := by
  unfold cX5_makeDecompositionsa_96
  refine gf_X5_24 (pc := 96) rfl dX5_makeDecompositions_96 ?_
  refine sm_iload (pc := 99) (n := 5) dX5_makeDecompositions_99 ?_
  refine sm_ialoadQ (pc := 101) dX5_makeDecompositions_101 ?_
  refine sm_aload_n (pc := 102) (n := 0) dX5_makeDecompositions_102 rfl ?_
  refine gf_X5_40 (pc := 103) rfl dX5_makeDecompositions_103 ?_
  refine sm_iload (pc := 106) (n := 5) dX5_makeDecompositions_106 ?_
  refine sm_aaloadT (pc := 108) dX5_makeDecompositions_108 ?_
  refine sm_iload (pc := 109) (n := 4) dX5_makeDecompositions_109 ?_
  refine sm_ialoadQ (pc := 111) dX5_makeDecompositions_111 ?_
  refine sm_cV (pc := 112) (ci := 3) (n := 4) (mc := 0) (ms := 0) rfl (zMet_str m_X3_seta) (cr_X5_132 (X := X_X5_makeDecompositions) (fr := 3) (frc := 1) (pc := 112) (mc := 0) (ms := 0) rfl (by decide) dX5_makeDecompositions_112) ?_
  exact hj115.use
noncomputable def lX5_makeDecompositionsa_53 {d : Nat} (P : zP d) (j124 : zK d) (r53 : zK d) : zK d := (xild 5 (xild 1 (xcmpS tgeR rlGe rhS rlS rhLt (xincR 3 1 j124) (xald 2 (xild 3 (xald 0 (xgfI 21 3 (xild 5 (xbin zaddR (xald 0 (xgfR 21 0 (xgfR 23 12 (xild 5 (xaaT (xild 4 (xalQ 0 (xcV 19 4 0 0 (zstr f_X3_seta) (xald 0 (xild 5 (xcV 21 2 0 0 (zstr f_X5_isRegular) (xjoin (bX5_makeDecompositionsa_115 P r53) (fun j115 => (xif0S teqR rlEq rhEq rlNe rhNe j115 (xald 2 (xild 3 (xald 0 (cX5_makeDecompositionsa_96 P j115)))))))))))))))))))))))))))
set_option maxRecDepth 100000 in
set_option maxHeartbeats 4000000 in
theorem slX5_makeDecompositionsa_53 {d : Nat} [zGh] (P : zP d) (j124 : zK d) (r53 : zK d) (hj124 : zSimJ 1 X_X5_makeDecompositions 3 P 124 j124) (hr53 : zSimJ 1 X_X5_makeDecompositions 3 P 53 r53) : zSim X_X5_makeDecompositions 3 P 53 (lX5_makeDecompositionsa_53 P j124 r53) := by
  unfold lX5_makeDecompositionsa_53
  refine sm_iload (pc := 53) (n := 5) dX5_makeDecompositions_53 ?_
  refine sm_iload_n (pc := 55) (n := 1) dX5_makeDecompositions_55 rfl ?_
  refine sm_icmpS_ge (pc := 56) (tgt := 121) dX5_makeDecompositions_56 (by decide) ?_ ?_
  · skip
    refine sm_iincR (pc := 121) (n := 3) dX5_makeDecompositions_121 zc_i_1 ?_
    exact hj124.use
  · skip
    refine sm_aload_n (pc := 59) (n := 2) dX5_makeDecompositions_59 rfl ?_
    refine sm_iload_n (pc := 60) (n := 3) dX5_makeDecompositions_60 rfl ?_
    refine sm_aload_n (pc := 61) (n := 0) dX5_makeDecompositions_61 rfl ?_
    refine gf_X5_89 (pc := 62) rfl dX5_makeDecompositions_62 ?_
    refine sm_iload (pc := 65) (n := 5) dX5_makeDecompositions_65 ?_
    refine sm_iaddR (pc := 67) dX5_makeDecompositions_67 ?_
    refine sm_aload_n (pc := 68) (n := 0) dX5_makeDecompositions_68 rfl ?_
    refine gf_X5_9 (pc := 69) rfl dX5_makeDecompositions_69 ?_
    refine gf_X5_129 (pc := 72) rfl dX5_makeDecompositions_72 ?_
    refine sm_iload (pc := 75) (n := 5) dX5_makeDecompositions_75 ?_
    refine sm_aaloadT (pc := 77) dX5_makeDecompositions_77 ?_
    refine sm_iload (pc := 78) (n := 4) dX5_makeDecompositions_78 ?_
    refine sm_ialoadQ (pc := 80) dX5_makeDecompositions_80 ?_
    refine sm_cV (pc := 81) (ci := 3) (n := 4) (mc := 0) (ms := 0) rfl (zMet_str m_X3_seta) (cr_X5_132 (X := X_X5_makeDecompositions) (fr := 3) (frc := 1) (pc := 81) (mc := 0) (ms := 0) rfl (by decide) dX5_makeDecompositions_81) ?_
    refine sm_aload_n (pc := 84) (n := 0) dX5_makeDecompositions_84 rfl ?_
    refine sm_iload (pc := 85) (n := 5) dX5_makeDecompositions_85 ?_
    refine sm_cV (pc := 87) (ci := 5) (n := 2) (mc := 0) (ms := 0) rfl (zMet_str m_X5_isRegular) (cr_X5_117 (X := X_X5_makeDecompositions) (fr := 3) (frc := 1) (pc := 87) (mc := 0) (ms := 0) rfl (by decide) dX5_makeDecompositions_87) ?_
    refine sm_joinJ (pc := 90) (pc' := 115) (j := 1) (fun G0 hG0 => @sbX5_makeDecompositionsa_115 d G0 P r53 (hr53.mv hG0 (by decide))) (fun j115 hj115 => ?_)
    refine sm_ifS_eq (pc := 90) (tgt := 115) dX5_makeDecompositions_90 (by decide) ?_ ?_
    · skip
      exact hj115.use
    · skip
      refine sm_aload_n (pc := 93) (n := 2) dX5_makeDecompositions_93 rfl ?_
      refine sm_iload_n (pc := 94) (n := 3) dX5_makeDecompositions_94 rfl ?_
      refine sm_aload_n (pc := 95) (n := 0) dX5_makeDecompositions_95 rfl ?_
      exact scX5_makeDecompositionsa_96 P j115 hj115
noncomputable def lX5_makeDecompositionsa_31 {d : Nat} (P : zP d) (r31 : zK d) : zK d := (xild 4 (xild 1 (xcmpS tgeR rlGe rhS rlS rhLt (xald 2 (xild 3 (xald 0 (xgfI 21 3 (xald 0 (xgfI 21 3 (xild 1 (xbin zaddR (xcV 19 4 0 0 (zstr f_X3_reducea) (xpop (xpI 0 (xist 4 (xloop (fun r149 => (lX5_makeDecompositionsa_149 P r149)) 100000))))))))))))) (xald 0 (xgfR 21 4 (xild 4 (xalQ 1 (xjoin (bX5_makeDecompositionsa_124 P r31) (fun j124 => (xif0S teqR rlEq rhEq rlNe rhNe j124 (xpI 0 (xist 5 (xloop (fun r53 => (lX5_makeDecompositionsa_53 P j124 r53)) 100000)))))))))))))
set_option maxRecDepth 100000 in
set_option maxHeartbeats 4000000 in
theorem slX5_makeDecompositionsa_31 {d : Nat} [zGh] (P : zP d) (r31 : zK d) (hr31 : zSimJ 1 X_X5_makeDecompositions 3 P 31 r31) : zSim X_X5_makeDecompositions 3 P 31 (lX5_makeDecompositionsa_31 P r31) := by
  unfold lX5_makeDecompositionsa_31
  refine sm_iload (pc := 31) (n := 4) dX5_makeDecompositions_31 ?_
  refine sm_iload_n (pc := 33) (n := 1) dX5_makeDecompositions_33 rfl ?_
  refine sm_icmpS_ge (pc := 34) (tgt := 130) dX5_makeDecompositions_34 (by decide) ?_ ?_
  · skip
    refine sm_aload_n (pc := 130) (n := 2) dX5_makeDecompositions_130 rfl ?_
    refine sm_iload_n (pc := 131) (n := 3) dX5_makeDecompositions_131 rfl ?_
    refine sm_aload_n (pc := 132) (n := 0) dX5_makeDecompositions_132 rfl ?_
    refine gf_X5_89 (pc := 133) rfl dX5_makeDecompositions_133 ?_
    refine sm_aload_n (pc := 136) (n := 0) dX5_makeDecompositions_136 rfl ?_
    refine gf_X5_89 (pc := 137) rfl dX5_makeDecompositions_137 ?_
    refine sm_iload_n (pc := 140) (n := 1) dX5_makeDecompositions_140 rfl ?_
    refine sm_iaddR (pc := 141) dX5_makeDecompositions_141 ?_
    refine sm_cV (pc := 142) (ci := 3) (n := 4) (mc := 0) (ms := 0) rfl (zMet_str m_X3_reducea) (cr_X5_135 (X := X_X5_makeDecompositions) (fr := 3) (frc := 2) (pc := 142) (mc := 0) (ms := 0) rfl (by decide) dX5_makeDecompositions_142) ?_
    refine sm_pop (pc := 145) dX5_makeDecompositions_145 ?_
    refine sm_iconst (pc := 146) dX5_makeDecompositions_146 zc_i_0 ?_
    refine sm_istore (pc := 147) (n := 4) dX5_makeDecompositions_147 ?_
    exact (sm_loopJ (j := 1) (fun G1 hG1 r149 hr149 => @slX5_makeDecompositionsa_149 d G1 P r149 hr149) _).use
  · skip
    refine sm_aload_n (pc := 37) (n := 0) dX5_makeDecompositions_37 rfl ?_
    refine gf_X5_28 (pc := 38) rfl dX5_makeDecompositions_38 ?_
    refine sm_iload (pc := 41) (n := 4) dX5_makeDecompositions_41 ?_
    refine sm_baloadQ (pc := 43) dX5_makeDecompositions_43 ?_
    refine sm_joinJ (pc := 44) (pc' := 124) (j := 1) (fun G0 hG0 => @sbX5_makeDecompositionsa_124 d G0 P r31 (hr31.mv hG0 (by decide))) (fun j124 hj124 => ?_)
    refine sm_ifS_ne (pc := 44) (tgt := 50) dX5_makeDecompositions_44 (by decide) ?_ ?_
    · skip
      refine sm_iconst (pc := 50) dX5_makeDecompositions_50 zc_i_0 ?_
      refine sm_istore (pc := 51) (n := 5) dX5_makeDecompositions_51 ?_
      exact (sm_loopJ (j := 1) (fun G1 hG1 r53 hr53 => @slX5_makeDecompositionsa_53 d G1 P j124 r53 (hj124.mv hG1 (by decide)) hr53) _).use
    · skip
      refine sm_goto (pc := 47) (tgt := 124) dX5_makeDecompositions_47 (by decide) ?_
      exact hj124.use
noncomputable def b_X5_makeDecompositionsa {d : Nat} (P : zP d) : zK d := (xald 0 (xgfR 21 0 (xgfI 23 1 (xist 1 (xnew 19 2 (xdup (xpI 10007 (xild 1 (xald 0 (xgfI 21 3 (xild 1 (xbin zaddR (xcV 19 4 20 300 (zstr f_X3_init) (xast 2 (xwk (wkR 2 [1] 4294967296 (wk12 2 [1] wkE)) (xpI 0 (xist 3 (xpI 0 (xist 4 (xloop (fun r31 => (lX5_makeDecompositionsa_31 P r31)) 100000))))))))))))))))))))
set_option maxRecDepth 100000 in
set_option maxHeartbeats 4000000 in
theorem s_X5_makeDecompositionsa {d : Nat} [zGh] (P : zP d) : zSim X_X5_makeDecompositions 3 P 0 (b_X5_makeDecompositionsa P) := by
  unfold b_X5_makeDecompositionsa
  refine sm_aload_n (pc := 0) (n := 0) dX5_makeDecompositions_0 rfl ?_
  refine gf_X5_9 (pc := 1) rfl dX5_makeDecompositions_1 ?_
  refine gf_X5_19 (pc := 4) rfl dX5_makeDecompositions_4 ?_
  refine sm_istore_n (pc := 7) (n := 1) dX5_makeDecompositions_7 rfl ?_
  refine sm_new (pc := 8) (ci := 3) (C := RX3) (T := TX3) (N := 2) (ty0 := tyX3) rfl rfl (by decide) (by decide) inz3 tyX3_ok rfl wd_345 wd_346 wd_10 dX5_makeDecompositions_8 ?_
  refine sm_dup (pc := 11) dX5_makeDecompositions_11 ?_
  refine sm_sipush (pc := 12) dX5_makeDecompositions_12 zc_s_10007 ?_
  refine sm_iload_n (pc := 15) (n := 1) dX5_makeDecompositions_15 rfl ?_
  refine sm_aload_n (pc := 16) (n := 0) dX5_makeDecompositions_16 rfl ?_
  refine gf_X5_89 (pc := 17) rfl dX5_makeDecompositions_17 ?_
  refine sm_iload_n (pc := 20) (n := 1) dX5_makeDecompositions_20 rfl ?_
  refine sm_iaddR (pc := 21) dX5_makeDecompositions_21 ?_
  refine sm_cV (pc := 22) (ci := 3) (n := 4) (mc := 20) (ms := 300) rfl (zMet_str m_X3_init) (cr_X5_107 (X := X_X5_makeDecompositions) (fr := 3) (frc := 1) (pc := 22) (mc := 20) (ms := 300) rfl (by decide) dX5_makeDecompositions_22) ?_
  refine sm_astore_n (pc := 25) (n := 2) dX5_makeDecompositions_25 rfl ?_
  refine sm_wk (wkR_ok (wk12_ok wkE_ok)) ?_
  refine sm_iconst (pc := 26) dX5_makeDecompositions_26 zc_i_0 ?_
  refine sm_istore_n (pc := 27) (n := 3) dX5_makeDecompositions_27 rfl ?_
  refine sm_iconst (pc := 28) dX5_makeDecompositions_28 zc_i_0 ?_
  refine sm_istore (pc := 29) (n := 4) dX5_makeDecompositions_29 ?_
  exact (sm_loopJ (j := 1) (fun G1 hG1 r31 hr31 => @slX5_makeDecompositionsa_31 d G1 P r31 hr31) _).use
noncomputable def f_X5_makeDecompositionsa {d : Nat} : List zV → zH d → zP d → Bool := zfn 6 b_X5_makeDecompositionsa
theorem m_X5_makeDecompositionsa {d : Nat} : zMet (d := d) X_X5_makeDecompositions yX5_makeDecompositions 3 f_X5_makeDecompositionsa := zmet_mk (X := X_X5_makeDecompositions) (by decide) rfl rfl s_X5_makeDecompositionsa
end
section
/-! the class by summaries, by program -/
noncomputable def cX5_makeCartansa_64 {d : Nat} (P : zP d) (r28 : zK d) : zK d := (xbin zmulR (xbin zaddR (xasQ 0 (fun v => v) (xincR 3 1 r28))))
set_option maxRecDepth 100000 in
set_option maxHeartbeats 4000000 in
theorem scX5_makeCartansa_64 {d : Nat} [zGh] (P : zP d) (r28 : zK d) (hr28 : zSimJ 4 X_X5_makeCartans 1 P 28 r28) : zSim X_X5_makeCartans 1 P 64 (cX5_makeCartansa_64 P r28) := by
  unfold cX5_makeCartansa_64
  refine sm_imulR (pc := 64) dX5_makeCartans_64 ?_
  refine sm_iaddR (pc := 65) dX5_makeCartans_65 ?_
  refine sm_iastoreQ (pc := 66) dX5_makeCartans_66 ?_
  refine sm_iincR (pc := 67) (n := 3) dX5_makeCartans_67 zc_i_1 ?_
  refine sm_goto (pc := 70) (tgt := 28) dX5_makeCartans_70 (by decide) ?_
  exact hr28.use
noncomputable def lX5_makeCartansa_28 {d : Nat} (P : zP d) (r15 : zK d) (r28 : zK d) : zK d := (xild 3 (xaldV 0 (xgfR 21 0 (xgfI 23 1 (xcmpS tgeR rlGe rhS rlS rhLt (xincR 2 1 r15) (xaldV 0 (xgfR 21 8 (xild 2 (xaaT (xild 3 (xdup2V (xalQ 0 (xaldV 0 (xgfR 21 7 (xild 1 (xaaT (xild 2 (xalQ 0 (xaldV 0 (xgfR 21 7 (xild 1 (xaaT (xild 3 (xalQ 0 (cX5_makeCartansa_64 P r28)))))))))))))))))))))))))
set_option maxRecDepth 100000 in
set_option maxHeartbeats 4000000 in
theorem slX5_makeCartansa_28 {d : Nat} [zGh] (P : zP d) (r15 : zK d) (r28 : zK d) (hr15 : zSimJ 3 X_X5_makeCartans 1 P 15 r15) (hr28 : zSimJ 4 X_X5_makeCartans 1 P 28 r28) : zSim X_X5_makeCartans 1 P 28 (lX5_makeCartansa_28 P r15 r28) := by
  unfold lX5_makeCartansa_28
  refine sm_iload_n (pc := 28) (n := 3) dX5_makeCartans_28 rfl ?_
  refine sm_aloadV_n (pc := 29) (n := 0) dX5_makeCartans_29 rfl ?_
  refine gf_X5_9 (pc := 30) rfl dX5_makeCartans_30 ?_
  refine gf_X5_19 (pc := 33) rfl dX5_makeCartans_33 ?_
  refine sm_icmpS_ge (pc := 36) (tgt := 73) dX5_makeCartans_36 (by decide) ?_ ?_
  · skip
    refine sm_iincR (pc := 73) (n := 2) dX5_makeCartans_73 zc_i_1 ?_
    refine sm_goto (pc := 76) (tgt := 15) dX5_makeCartans_76 (by decide) ?_
    exact hr15.use
  · skip
    refine sm_aloadV_n (pc := 39) (n := 0) dX5_makeCartans_39 rfl ?_
    refine gf_X5_52 (pc := 40) rfl dX5_makeCartans_40 ?_
    refine sm_iload_n (pc := 43) (n := 2) dX5_makeCartans_43 rfl ?_
    refine sm_aaloadT (pc := 44) dX5_makeCartans_44 ?_
    refine sm_iload_n (pc := 45) (n := 3) dX5_makeCartans_45 rfl ?_
    refine sm_dup2V (pc := 46) dX5_makeCartans_46 ?_
    refine sm_ialoadQ (pc := 47) dX5_makeCartans_47 ?_
    refine sm_aloadV_n (pc := 48) (n := 0) dX5_makeCartans_48 rfl ?_
    refine gf_X5_46 (pc := 49) rfl dX5_makeCartans_49 ?_
    refine sm_iload_n (pc := 52) (n := 1) dX5_makeCartans_52 rfl ?_
    refine sm_aaloadT (pc := 53) dX5_makeCartans_53 ?_
    refine sm_iload_n (pc := 54) (n := 2) dX5_makeCartans_54 rfl ?_
    refine sm_ialoadQ (pc := 55) dX5_makeCartans_55 ?_
    refine sm_aloadV_n (pc := 56) (n := 0) dX5_makeCartans_56 rfl ?_
    refine gf_X5_46 (pc := 57) rfl dX5_makeCartans_57 ?_
    refine sm_iload_n (pc := 60) (n := 1) dX5_makeCartans_60 rfl ?_
    refine sm_aaloadT (pc := 61) dX5_makeCartans_61 ?_
    refine sm_iload_n (pc := 62) (n := 3) dX5_makeCartans_62 rfl ?_
    refine sm_ialoadQ (pc := 63) dX5_makeCartans_63 ?_
    exact scX5_makeCartansa_64 P r28 hr28
noncomputable def lX5_makeCartansa_15 {d : Nat} (P : zP d) (r15 : zK d) (r2 : zK d) : zK d := (xild 2 (xaldV 0 (xgfR 21 0 (xgfI 23 1 (xcmpS tgeR rlGe rhS rlS rhLt (xincR 1 1 r2) (xpI 0 (xist 3 (xlp 3 3 (hsF 0 [0] 1) wkE (fun r28 => (lX5_makeCartansa_28 P r15 r28))))))))))
set_option maxRecDepth 100000 in
set_option maxHeartbeats 4000000 in
theorem slX5_makeCartansa_15 {d : Nat} [zGh] (P : zP d) (r15 : zK d) (r2 : zK d) (hr15 : zSimJ 3 X_X5_makeCartans 1 P 15 r15) (hr2 : zSimJ 2 X_X5_makeCartans 1 P 2 r2) : zSim X_X5_makeCartans 1 P 15 (lX5_makeCartansa_15 P r15 r2) := by
  unfold lX5_makeCartansa_15
  refine sm_iload_n (pc := 15) (n := 2) dX5_makeCartans_15 rfl ?_
  refine sm_aloadV_n (pc := 16) (n := 0) dX5_makeCartans_16 rfl ?_
  refine gf_X5_9 (pc := 17) rfl dX5_makeCartans_17 ?_
  refine gf_X5_19 (pc := 20) rfl dX5_makeCartans_20 ?_
  refine sm_icmpS_ge (pc := 23) (tgt := 79) dX5_makeCartans_23 (by decide) ?_ ?_
  · skip
    refine sm_iincR (pc := 79) (n := 1) dX5_makeCartans_79 zc_i_1 ?_
    refine sm_goto (pc := 82) (tgt := 2) dX5_makeCartans_82 (by decide) ?_
    exact hr2.use
  · skip
    refine sm_iconst (pc := 26) dX5_makeCartans_26 zc_i_0 ?_
    refine sm_istore_n (pc := 27) (n := 3) dX5_makeCartans_27 rfl ?_
    exact sm_lp (i := 3) (j := 3) (by decide) (by decide) hsF_ok wkE_ok (fun G1 hG1 r28 hr28 => @slX5_makeCartansa_28 d G1 P r15 r28 (hr15.mv hG1 (by decide)) hr28)
noncomputable def lX5_makeCartansa_2 {d : Nat} (P : zP d) (r2 : zK d) : zK d := (xild 1 (xaldV 0 (xgfR 21 0 (xgfI 23 1 (xcmpS tgeR rlGe rhS rlS rhLt (xvret P) (xpI 0 (xist 2 (xlp 2 2 (hsF 0 [0] 1) wkE (fun r15 => (lX5_makeCartansa_15 P r15 r2))))))))))
set_option maxRecDepth 100000 in
set_option maxHeartbeats 4000000 in
theorem slX5_makeCartansa_2 {d : Nat} [zGh] (P : zP d) (r2 : zK d) (hr2 : zSimJ 2 X_X5_makeCartans 1 P 2 r2) : zSim X_X5_makeCartans 1 P 2 (lX5_makeCartansa_2 P r2) := by
  unfold lX5_makeCartansa_2
  refine sm_iload_n (pc := 2) (n := 1) dX5_makeCartans_2 rfl ?_
  refine sm_aloadV_n (pc := 3) (n := 0) dX5_makeCartans_3 rfl ?_
  refine gf_X5_9 (pc := 4) rfl dX5_makeCartans_4 ?_
  refine gf_X5_19 (pc := 7) rfl dX5_makeCartans_7 ?_
  refine sm_icmpS_ge (pc := 10) (tgt := 85) dX5_makeCartans_10 (by decide) ?_ ?_
  · skip
    exact sm_vreturn (pc := 85) dX5_makeCartans_85 rfl
  · skip
    refine sm_iconst (pc := 13) dX5_makeCartans_13 zc_i_0 ?_
    refine sm_istore_n (pc := 14) (n := 2) dX5_makeCartans_14 rfl ?_
    exact sm_lp (i := 2) (j := 2) (by decide) (by decide) hsF_ok wkE_ok (fun G1 hG1 r15 hr15 => @slX5_makeCartansa_15 d G1 P r15 r2 hr15 (hr2.mv hG1 (by decide)))
noncomputable def b_X5_makeCartansa {d : Nat} (P : zP d) : zK d := (xpI 0 (xist 1 (xlp 1 1 (hsF 0 [0] 1) (wkR 0 [8] 4294967296 (wkR 0 [7] 4294967296 wkE)) (fun r2 => (lX5_makeCartansa_2 P r2)))))
set_option maxRecDepth 100000 in
set_option maxHeartbeats 4000000 in
theorem s_X5_makeCartansa {d : Nat} [zGh] (P : zP d) : zSim X_X5_makeCartans 1 P 0 (b_X5_makeCartansa P) := by
  unfold b_X5_makeCartansa
  refine sm_iconst (pc := 0) dX5_makeCartans_0 zc_i_0 ?_
  refine sm_istore_n (pc := 1) (n := 1) dX5_makeCartans_1 rfl ?_
  exact sm_lp (i := 1) (j := 1) (by decide) (by decide) hsF_ok (wkR_ok (wkR_ok wkE_ok)) (fun G1 hG1 r2 hr2 => @slX5_makeCartansa_2 d G1 P r2 hr2)
noncomputable def f_X5_makeCartansa {d : Nat} : List zV → zH d → zP d → Bool := zfn 4 b_X5_makeCartansa
theorem m_X5_makeCartansa {d : Nat} : zMet (d := d) X_X5_makeCartans yX5_makeCartans 1 f_X5_makeCartansa := zmet_mk (X := X_X5_makeCartans) (by decide) rfl rfl s_X5_makeCartansa
end
section
/-! the class by summaries, by program -/
noncomputable def cX5_makeProjectivesa_66 {d : Nat} (P : zP d) (r28 : zK d) : zK d := (xalQ 0 (xbin zmulR (xbin zaddR (xasQ 0 (fun v => v) (xincR 3 1 r28)))))
set_option maxRecDepth 100000 in
set_option maxHeartbeats 4000000 in
theorem scX5_makeProjectivesa_66 {d : Nat} [zGh] (P : zP d) (r28 : zK d) (hr28 : zSimJ 4 X_X5_makeProjectives 1 P 28 r28) : zSim X_X5_makeProjectives 1 P 66 (cX5_makeProjectivesa_66 P r28) := by
  unfold cX5_makeProjectivesa_66
  refine sm_ialoadQ (pc := 66) dX5_makeProjectives_66 ?_
  refine sm_imulR (pc := 67) dX5_makeProjectives_67 ?_
  refine sm_iaddR (pc := 68) dX5_makeProjectives_68 ?_
  refine sm_iastoreQ (pc := 69) dX5_makeProjectives_69 ?_
  refine sm_iincR (pc := 70) (n := 3) dX5_makeProjectives_70 zc_i_1 ?_
  refine sm_goto (pc := 73) (tgt := 28) dX5_makeProjectives_73 (by decide) ?_
  exact hr28.use
noncomputable def lX5_makeProjectivesa_28 {d : Nat} (P : zP d) (r15 : zK d) (r28 : zK d) : zK d := (xild 3 (xaldV 0 (xgfR 21 0 (xgfI 23 1 (xcmpS tgeR rlGe rhS rlS rhLt (xincR 2 1 r15) (xaldV 0 (xgfR 21 9 (xild 2 (xaaT (xild 3 (xdup2V (xalQ 0 (xaldV 0 (xgfR 21 7 (xild 1 (xaaT (xild 2 (xalQ 0 (xaldV 0 (xgfR 21 0 (xgfR 23 12 (xild 1 (xaaT (xild 3 (cX5_makeProjectivesa_66 P r28)))))))))))))))))))))))))
set_option maxRecDepth 100000 in
set_option maxHeartbeats 4000000 in
theorem slX5_makeProjectivesa_28 {d : Nat} [zGh] (P : zP d) (r15 : zK d) (r28 : zK d) (hr15 : zSimJ 3 X_X5_makeProjectives 1 P 15 r15) (hr28 : zSimJ 4 X_X5_makeProjectives 1 P 28 r28) : zSim X_X5_makeProjectives 1 P 28 (lX5_makeProjectivesa_28 P r15 r28) := by
  unfold lX5_makeProjectivesa_28
  refine sm_iload_n (pc := 28) (n := 3) dX5_makeProjectives_28 rfl ?_
  refine sm_aloadV_n (pc := 29) (n := 0) dX5_makeProjectives_29 rfl ?_
  refine gf_X5_9 (pc := 30) rfl dX5_makeProjectives_30 ?_
  refine gf_X5_19 (pc := 33) rfl dX5_makeProjectives_33 ?_
  refine sm_icmpS_ge (pc := 36) (tgt := 76) dX5_makeProjectives_36 (by decide) ?_ ?_
  · skip
    refine sm_iincR (pc := 76) (n := 2) dX5_makeProjectives_76 zc_i_1 ?_
    refine sm_goto (pc := 79) (tgt := 15) dX5_makeProjectives_79 (by decide) ?_
    exact hr15.use
  · skip
    refine sm_aloadV_n (pc := 39) (n := 0) dX5_makeProjectives_39 rfl ?_
    refine gf_X5_55 (pc := 40) rfl dX5_makeProjectives_40 ?_
    refine sm_iload_n (pc := 43) (n := 2) dX5_makeProjectives_43 rfl ?_
    refine sm_aaloadT (pc := 44) dX5_makeProjectives_44 ?_
    refine sm_iload_n (pc := 45) (n := 3) dX5_makeProjectives_45 rfl ?_
    refine sm_dup2V (pc := 46) dX5_makeProjectives_46 ?_
    refine sm_ialoadQ (pc := 47) dX5_makeProjectives_47 ?_
    refine sm_aloadV_n (pc := 48) (n := 0) dX5_makeProjectives_48 rfl ?_
    refine gf_X5_46 (pc := 49) rfl dX5_makeProjectives_49 ?_
    refine sm_iload_n (pc := 52) (n := 1) dX5_makeProjectives_52 rfl ?_
    refine sm_aaloadT (pc := 53) dX5_makeProjectives_53 ?_
    refine sm_iload_n (pc := 54) (n := 2) dX5_makeProjectives_54 rfl ?_
    refine sm_ialoadQ (pc := 55) dX5_makeProjectives_55 ?_
    refine sm_aloadV_n (pc := 56) (n := 0) dX5_makeProjectives_56 rfl ?_
    refine gf_X5_9 (pc := 57) rfl dX5_makeProjectives_57 ?_
    refine gf_X5_129 (pc := 60) rfl dX5_makeProjectives_60 ?_
    refine sm_iload_n (pc := 63) (n := 1) dX5_makeProjectives_63 rfl ?_
    refine sm_aaloadT (pc := 64) dX5_makeProjectives_64 ?_
    refine sm_iload_n (pc := 65) (n := 3) dX5_makeProjectives_65 rfl ?_
    exact scX5_makeProjectivesa_66 P r28 hr28
noncomputable def lX5_makeProjectivesa_15 {d : Nat} (P : zP d) (r15 : zK d) (r2 : zK d) : zK d := (xild 2 (xaldV 0 (xgfR 21 0 (xgfI 23 1 (xcmpS tgeR rlGe rhS rlS rhLt (xincR 1 1 r2) (xpI 0 (xist 3 (xlp 3 3 (hsF 0 [0] 1) wkE (fun r28 => (lX5_makeProjectivesa_28 P r15 r28))))))))))
set_option maxRecDepth 100000 in
set_option maxHeartbeats 4000000 in
theorem slX5_makeProjectivesa_15 {d : Nat} [zGh] (P : zP d) (r15 : zK d) (r2 : zK d) (hr15 : zSimJ 3 X_X5_makeProjectives 1 P 15 r15) (hr2 : zSimJ 2 X_X5_makeProjectives 1 P 2 r2) : zSim X_X5_makeProjectives 1 P 15 (lX5_makeProjectivesa_15 P r15 r2) := by
  unfold lX5_makeProjectivesa_15
  refine sm_iload_n (pc := 15) (n := 2) dX5_makeProjectives_15 rfl ?_
  refine sm_aloadV_n (pc := 16) (n := 0) dX5_makeProjectives_16 rfl ?_
  refine gf_X5_9 (pc := 17) rfl dX5_makeProjectives_17 ?_
  refine gf_X5_19 (pc := 20) rfl dX5_makeProjectives_20 ?_
  refine sm_icmpS_ge (pc := 23) (tgt := 82) dX5_makeProjectives_23 (by decide) ?_ ?_
  · skip
    refine sm_iincR (pc := 82) (n := 1) dX5_makeProjectives_82 zc_i_1 ?_
    refine sm_goto (pc := 85) (tgt := 2) dX5_makeProjectives_85 (by decide) ?_
    exact hr2.use
  · skip
    refine sm_iconst (pc := 26) dX5_makeProjectives_26 zc_i_0 ?_
    refine sm_istore_n (pc := 27) (n := 3) dX5_makeProjectives_27 rfl ?_
    exact sm_lp (i := 3) (j := 3) (by decide) (by decide) hsF_ok wkE_ok (fun G1 hG1 r28 hr28 => @slX5_makeProjectivesa_28 d G1 P r15 r28 (hr15.mv hG1 (by decide)) hr28)
noncomputable def lX5_makeProjectivesa_2 {d : Nat} (P : zP d) (r2 : zK d) : zK d := (xild 1 (xaldV 0 (xgfR 21 0 (xgfI 23 1 (xcmpS tgeR rlGe rhS rlS rhLt (xvret P) (xpI 0 (xist 2 (xlp 2 2 (hsF 0 [0] 1) wkE (fun r15 => (lX5_makeProjectivesa_15 P r15 r2))))))))))
set_option maxRecDepth 100000 in
set_option maxHeartbeats 4000000 in
theorem slX5_makeProjectivesa_2 {d : Nat} [zGh] (P : zP d) (r2 : zK d) (hr2 : zSimJ 2 X_X5_makeProjectives 1 P 2 r2) : zSim X_X5_makeProjectives 1 P 2 (lX5_makeProjectivesa_2 P r2) := by
  unfold lX5_makeProjectivesa_2
  refine sm_iload_n (pc := 2) (n := 1) dX5_makeProjectives_2 rfl ?_
  refine sm_aloadV_n (pc := 3) (n := 0) dX5_makeProjectives_3 rfl ?_
  refine gf_X5_9 (pc := 4) rfl dX5_makeProjectives_4 ?_
  refine gf_X5_19 (pc := 7) rfl dX5_makeProjectives_7 ?_
  refine sm_icmpS_ge (pc := 10) (tgt := 88) dX5_makeProjectives_10 (by decide) ?_ ?_
  · skip
    exact sm_vreturn (pc := 88) dX5_makeProjectives_88 rfl
  · skip
    refine sm_iconst (pc := 13) dX5_makeProjectives_13 zc_i_0 ?_
    refine sm_istore_n (pc := 14) (n := 2) dX5_makeProjectives_14 rfl ?_
    exact sm_lp (i := 2) (j := 2) (by decide) (by decide) hsF_ok wkE_ok (fun G1 hG1 r15 hr15 => @slX5_makeProjectivesa_15 d G1 P r15 r2 hr15 (hr2.mv hG1 (by decide)))
noncomputable def b_X5_makeProjectivesa {d : Nat} (P : zP d) : zK d := (xpI 0 (xist 1 (xlp 1 1 (hsF 0 [0] 1) (wkR 0 [9] 4294967296 (wkR 0 [7] 4294967296 (wkR 0 [0, 12] 4294967296 wkE))) (fun r2 => (lX5_makeProjectivesa_2 P r2)))))
set_option maxRecDepth 100000 in
set_option maxHeartbeats 4000000 in
theorem s_X5_makeProjectivesa {d : Nat} [zGh] (P : zP d) : zSim X_X5_makeProjectives 1 P 0 (b_X5_makeProjectivesa P) := by
  unfold b_X5_makeProjectivesa
  refine sm_iconst (pc := 0) dX5_makeProjectives_0 zc_i_0 ?_
  refine sm_istore_n (pc := 1) (n := 1) dX5_makeProjectives_1 rfl ?_
  exact sm_lp (i := 1) (j := 1) (by decide) (by decide) hsF_ok (wkR_ok (wkR_ok (wkR_ok wkE_ok))) (fun G1 hG1 r2 hr2 => @slX5_makeProjectivesa_2 d G1 P r2 hr2)
noncomputable def f_X5_makeProjectivesa {d : Nat} : List zV → zH d → zP d → Bool := zfn 4 b_X5_makeProjectivesa
theorem m_X5_makeProjectivesa {d : Nat} : zMet (d := d) X_X5_makeProjectives yX5_makeProjectives 1 f_X5_makeProjectivesa := zmet_mk (X := X_X5_makeProjectives) (by decide) rfl rfl s_X5_makeProjectivesa
end
section
/-! the class by summaries, by program -/
noncomputable def bX5_determinanta_134 {d : Nat} (P : zP d) : zK d := (xlret P)
set_option maxRecDepth 100000 in
set_option maxHeartbeats 4000000 in
theorem sbX5_determinanta_134 {d : Nat} [zGh] (P : zP d) : zSim X_X5_determinant 1 P 134 (bX5_determinanta_134 P) := by
  unfold bX5_determinanta_134
  exact sm_lreturn (pc := 134) dX5_determinant_134 rfl
noncomputable def bX5_determinanta_90 {d : Nat} (P : zP d) (r31 : zK d) : zK d := (xlas (xincR 6 1 r31))
set_option maxRecDepth 100000 in
set_option maxHeartbeats 4000000 in
theorem sbX5_determinanta_90 {d : Nat} [zGh] (P : zP d) (r31 : zK d) (hr31 : zSimJ 1 X_X5_determinant 1 P 31 r31) : zSim X_X5_determinant 1 P 90 (bX5_determinanta_90 P r31) := by
  unfold bX5_determinanta_90
  refine sm_lastore (pc := 90) dX5_determinant_90 ?_
  refine sm_iincR (pc := 91) (n := 6) dX5_determinant_91 zc_i_1 ?_
  refine sm_goto (pc := 94) (tgt := 31) dX5_determinant_94 (by decide) ?_
  exact hr31.use
noncomputable def cX5_determinanta_66 {d : Nat} (P : zP d) (r31 : zK d) : zK d := (xbinj zmulj (xbinj zsubj (xlst 7 (xald 0 (xild 5 (xaaT (xild 6 (xjn wkE (zsp [zL 18446744073709551616] 0) (bX5_determinanta_90 P r31) (fun j90 => (xlz 2 (xpL 0 j90) (xlld 7 (xlld 2 (xdvT j90)))))))))))))
set_option maxRecDepth 100000 in
set_option maxHeartbeats 4000000 in
theorem scX5_determinanta_66 {d : Nat} [zGh] (P : zP d) (r31 : zK d) (hr31 : zSimJ 1 X_X5_determinant 1 P 31 r31) : zSim X_X5_determinant 1 P 66 (cX5_determinanta_66 P r31) := by
  unfold cX5_determinanta_66
  refine sm_lmul (pc := 66) dX5_determinant_66 ?_
  refine sm_lsub (pc := 67) dX5_determinant_67 ?_
  refine sm_lstore (pc := 68) (n := 7) dX5_determinant_68 ?_
  refine sm_aload_n (pc := 70) (n := 0) dX5_determinant_70 rfl ?_
  refine sm_iload (pc := 71) (n := 5) dX5_determinant_71 ?_
  refine sm_aaloadT (pc := 73) dX5_determinant_73 ?_
  refine sm_iload (pc := 74) (n := 6) dX5_determinant_74 ?_
  refine sm_jn (pc := 76) (pc' := 90) (j := 1) wkE_ok (zsp_ok _ _) (fun G0 hG0 => @sbX5_determinanta_90 d G0 P r31 (hr31.mv hG0 (by decide))) (fun j90 hj90 => ?_)
  refine sm_lz_n (pc := 76) (n := 2) (tgt := 89) dX5_determinant_76 rfl dX5_determinant_77 rfl dX5_determinant_78 dX5_determinant_79 (by decide) ?_ ?_
  · skip
    refine sm_lconst (pc := 89) dX5_determinant_89 zc_l_0 ?_
    exact hj90.use
  · skip
    refine sm_lload (pc := 82) (n := 7) dX5_determinant_82 ?_
    refine sm_lload_n (pc := 84) (n := 2) dX5_determinant_84 rfl ?_
    refine sm_ldivT (pc := 85) dX5_determinant_85 ?_
    refine sm_goto (pc := 86) (tgt := 90) dX5_determinant_86 (by decide) ?_
    exact hj90.use
noncomputable def lX5_determinanta_31 {d : Nat} (P : zP d) (r19 : zK d) (r31 : zK d) : zK d := (xild 6 (xild 1 (xcmpS tgeR rlGe rhS rlS rhLt (xincR 5 1 r19) (xald 0 (xild 5 (xaaT (xild 6 (xlal (xald 0 (xild 4 (xaaT (xild 4 (xlal (xbinj zmulj (xald 0 (xild 5 (xaaT (xild 4 (xlal (xald 0 (xild 4 (xaaT (xild 6 (xlal (cX5_determinanta_66 P r31)))))))))))))))))))))))))
set_option maxRecDepth 100000 in
set_option maxHeartbeats 4000000 in
theorem slX5_determinanta_31 {d : Nat} [zGh] (P : zP d) (r19 : zK d) (r31 : zK d) (hr19 : zSimJ 1 X_X5_determinant 1 P 19 r19) (hr31 : zSimJ 1 X_X5_determinant 1 P 31 r31) : zSim X_X5_determinant 1 P 31 (lX5_determinanta_31 P r19 r31) := by
  unfold lX5_determinanta_31
  refine sm_iload (pc := 31) (n := 6) dX5_determinant_31 ?_
  refine sm_iload_n (pc := 33) (n := 1) dX5_determinant_33 rfl ?_
  refine sm_icmpS_ge (pc := 34) (tgt := 97) dX5_determinant_34 (by decide) ?_ ?_
  · skip
    refine sm_iincR (pc := 97) (n := 5) dX5_determinant_97 zc_i_1 ?_
    refine sm_goto (pc := 100) (tgt := 19) dX5_determinant_100 (by decide) ?_
    exact hr19.use
  · skip
    refine sm_aload_n (pc := 37) (n := 0) dX5_determinant_37 rfl ?_
    refine sm_iload (pc := 38) (n := 5) dX5_determinant_38 ?_
    refine sm_aaloadT (pc := 40) dX5_determinant_40 ?_
    refine sm_iload (pc := 41) (n := 6) dX5_determinant_41 ?_
    refine sm_laload (pc := 43) dX5_determinant_43 ?_
    refine sm_aload_n (pc := 44) (n := 0) dX5_determinant_44 rfl ?_
    refine sm_iload (pc := 45) (n := 4) dX5_determinant_45 ?_
    refine sm_aaloadT (pc := 47) dX5_determinant_47 ?_
    refine sm_iload (pc := 48) (n := 4) dX5_determinant_48 ?_
    refine sm_laload (pc := 50) dX5_determinant_50 ?_
    refine sm_lmul (pc := 51) dX5_determinant_51 ?_
    refine sm_aload_n (pc := 52) (n := 0) dX5_determinant_52 rfl ?_
    refine sm_iload (pc := 53) (n := 5) dX5_determinant_53 ?_
    refine sm_aaloadT (pc := 55) dX5_determinant_55 ?_
    refine sm_iload (pc := 56) (n := 4) dX5_determinant_56 ?_
    refine sm_laload (pc := 58) dX5_determinant_58 ?_
    refine sm_aload_n (pc := 59) (n := 0) dX5_determinant_59 rfl ?_
    refine sm_iload (pc := 60) (n := 4) dX5_determinant_60 ?_
    refine sm_aaloadT (pc := 62) dX5_determinant_62 ?_
    refine sm_iload (pc := 63) (n := 6) dX5_determinant_63 ?_
    refine sm_laload (pc := 65) dX5_determinant_65 ?_
    exact scX5_determinanta_66 P r31 hr31
noncomputable def lX5_determinanta_19 {d : Nat} (P : zP d) (r19 : zK d) (r5 : zK d) : zK d := (xild 5 (xild 1 (xcmpS tgeR rlGe rhS rlS rhLt (xald 0 (xild 4 (xaaT (xild 4 (xlal (xlst 2 (xincR 4 1 r5))))))) (xild 4 (xpI 1 (xbin zaddR (xist 6 (xloop (fun r31 => (lX5_determinanta_31 P r19 r31)) 100000))))))))
set_option maxRecDepth 100000 in
set_option maxHeartbeats 4000000 in
theorem slX5_determinanta_19 {d : Nat} [zGh] (P : zP d) (r19 : zK d) (r5 : zK d) (hr19 : zSimJ 1 X_X5_determinant 1 P 19 r19) (hr5 : zSimJ 1 X_X5_determinant 1 P 5 r5) : zSim X_X5_determinant 1 P 19 (lX5_determinanta_19 P r19 r5) := by
  unfold lX5_determinanta_19
  refine sm_iload (pc := 19) (n := 5) dX5_determinant_19 ?_
  refine sm_iload_n (pc := 21) (n := 1) dX5_determinant_21 rfl ?_
  refine sm_icmpS_ge (pc := 22) (tgt := 103) dX5_determinant_22 (by decide) ?_ ?_
  · skip
    refine sm_aload_n (pc := 103) (n := 0) dX5_determinant_103 rfl ?_
    refine sm_iload (pc := 104) (n := 4) dX5_determinant_104 ?_
    refine sm_aaloadT (pc := 106) dX5_determinant_106 ?_
    refine sm_iload (pc := 107) (n := 4) dX5_determinant_107 ?_
    refine sm_laload (pc := 109) dX5_determinant_109 ?_
    refine sm_lstore_n (pc := 110) (n := 2) dX5_determinant_110 rfl ?_
    refine sm_iincR (pc := 111) (n := 4) dX5_determinant_111 zc_i_1 ?_
    refine sm_goto (pc := 114) (tgt := 5) dX5_determinant_114 (by decide) ?_
    exact hr5.use
  · skip
    refine sm_iload (pc := 25) (n := 4) dX5_determinant_25 ?_
    refine sm_iconst (pc := 27) dX5_determinant_27 zc_i_1 ?_
    refine sm_iaddR (pc := 28) dX5_determinant_28 ?_
    refine sm_istore (pc := 29) (n := 6) dX5_determinant_29 ?_
    exact (sm_loopJ (j := 1) (fun G1 hG1 r31 hr31 => @slX5_determinanta_31 d G1 P r19 r31 (hr19.mv hG1 (by decide)) hr31) _).use
noncomputable def lX5_determinanta_5 {d : Nat} (P : zP d) (r5 : zK d) : zK d := (xild 4 (xpI 1 (xbin zaddR (xild 1 (xcmpS tgeR rlGe rhS rlS rhLt (xild 1 (xjoin (bX5_determinanta_134 P) (fun j134 => (xif0S tleR rlS rhLe rlGt rhS (xpL 1 j134) (xald 0 (xild 1 (xpI 1 (xbin zsubR (xaaT (xild 1 (xpI 1 (xbin zsubR (xlal j134))))))))))))) (xild 4 (xpI 1 (xbin zaddR (xist 5 (xloop (fun r19 => (lX5_determinanta_19 P r19 r5)) 100000))))))))))
set_option maxRecDepth 100000 in
set_option maxHeartbeats 4000000 in
theorem slX5_determinanta_5 {d : Nat} [zGh] (P : zP d) (r5 : zK d) (hr5 : zSimJ 1 X_X5_determinant 1 P 5 r5) : zSim X_X5_determinant 1 P 5 (lX5_determinanta_5 P r5) := by
  unfold lX5_determinanta_5
  refine sm_iload (pc := 5) (n := 4) dX5_determinant_5 ?_
  refine sm_iconst (pc := 7) dX5_determinant_7 zc_i_1 ?_
  refine sm_iaddR (pc := 8) dX5_determinant_8 ?_
  refine sm_iload_n (pc := 9) (n := 1) dX5_determinant_9 rfl ?_
  refine sm_icmpS_ge (pc := 10) (tgt := 117) dX5_determinant_10 (by decide) ?_ ?_
  · skip
    refine sm_iload_n (pc := 117) (n := 1) dX5_determinant_117 rfl ?_
    refine sm_joinJ (pc := 118) (pc' := 134) (j := 1) (fun G0 hG0 => @sbX5_determinanta_134 d G0 P) (fun j134 hj134 => ?_)
    refine sm_ifS_le (pc := 118) (tgt := 133) dX5_determinant_118 (by decide) ?_ ?_
    · skip
      refine sm_lconst (pc := 133) dX5_determinant_133 zc_l_1 ?_
      exact hj134.use
    · skip
      refine sm_aload_n (pc := 121) (n := 0) dX5_determinant_121 rfl ?_
      refine sm_iload_n (pc := 122) (n := 1) dX5_determinant_122 rfl ?_
      refine sm_iconst (pc := 123) dX5_determinant_123 zc_i_1 ?_
      refine sm_isubR (pc := 124) dX5_determinant_124 ?_
      refine sm_aaloadT (pc := 125) dX5_determinant_125 ?_
      refine sm_iload_n (pc := 126) (n := 1) dX5_determinant_126 rfl ?_
      refine sm_iconst (pc := 127) dX5_determinant_127 zc_i_1 ?_
      refine sm_isubR (pc := 128) dX5_determinant_128 ?_
      refine sm_laload (pc := 129) dX5_determinant_129 ?_
      refine sm_goto (pc := 130) (tgt := 134) dX5_determinant_130 (by decide) ?_
      exact hj134.use
  · skip
    refine sm_iload (pc := 13) (n := 4) dX5_determinant_13 ?_
    refine sm_iconst (pc := 15) dX5_determinant_15 zc_i_1 ?_
    refine sm_iaddR (pc := 16) dX5_determinant_16 ?_
    refine sm_istore (pc := 17) (n := 5) dX5_determinant_17 ?_
    exact (sm_loopJ (j := 1) (fun G1 hG1 r19 hr19 => @slX5_determinanta_19 d G1 P r19 r5 hr19 (hr5.mv hG1 (by decide))) _).use
noncomputable def b_X5_determinanta {d : Nat} (P : zP d) : zK d := (xpL 1 (xlst 2 (xpI 0 (xist 4 (xloop (fun r5 => (lX5_determinanta_5 P r5)) 100000)))))
set_option maxRecDepth 100000 in
set_option maxHeartbeats 4000000 in
theorem s_X5_determinanta {d : Nat} [zGh] (P : zP d) : zSim X_X5_determinant 1 P 0 (b_X5_determinanta P) := by
  unfold b_X5_determinanta
  refine sm_lconst (pc := 0) dX5_determinant_0 zc_l_1 ?_
  refine sm_lstore_n (pc := 1) (n := 2) dX5_determinant_1 rfl ?_
  refine sm_iconst (pc := 2) dX5_determinant_2 zc_i_0 ?_
  refine sm_istore (pc := 3) (n := 4) dX5_determinant_3 ?_
  exact (sm_loopJ (j := 1) (fun G1 hG1 r5 hr5 => @slX5_determinanta_5 d G1 P r5 hr5) _).use
noncomputable def f_X5_determinanta {d : Nat} : List zV → zH d → zP d → Bool := zfn 9 b_X5_determinanta
theorem m_X5_determinanta {d : Nat} : zMet (d := d) X_X5_determinant yX5_determinant 1 f_X5_determinanta := zmet_mk (X := X_X5_determinant) (by decide) rfl rfl s_X5_determinanta
end
section
/-! the class by summaries, by program -/
noncomputable def lX5_makeDeterminantsa_102 {d : Nat} (P : zP d) (r102 : zK d) (r92 : zK d) : zK d := (xild 6 (xild 4 (xcmpS tgeR rlGe rhS rlS rhLt (xincR 5 1 r92) (xald 1 (xild 5 (xaaT (xild 6 (xald 0 (xgfR 21 8 (xald 2 (xild 5 (xalQ 0 (xaaT (xald 2 (xild 6 (xalQ 0 (xalQ 0 (xi2l (xlas (xincR 6 1 r102))))))))))))))))))))
set_option maxRecDepth 100000 in
set_option maxHeartbeats 4000000 in
theorem slX5_makeDeterminantsa_102 {d : Nat} [zGh] (P : zP d) (r102 : zK d) (r92 : zK d) (hr102 : zSimJ 1 X_X5_makeDeterminants 2 P 102 r102) (hr92 : zSimJ 1 X_X5_makeDeterminants 2 P 92 r92) : zSim X_X5_makeDeterminants 2 P 102 (lX5_makeDeterminantsa_102 P r102 r92) := by
  unfold lX5_makeDeterminantsa_102
  refine sm_iload (pc := 102) (n := 6) dX5_makeDeterminants_102 ?_
  refine sm_iload (pc := 104) (n := 4) dX5_makeDeterminants_104 ?_
  refine sm_icmpS_ge (pc := 106) (tgt := 137) dX5_makeDeterminants_106 (by decide) ?_ ?_
  · skip
    refine sm_iincR (pc := 137) (n := 5) dX5_makeDeterminants_137 zc_i_1 ?_
    refine sm_goto (pc := 140) (tgt := 92) dX5_makeDeterminants_140 (by decide) ?_
    exact hr92.use
  · skip
    refine sm_aload_n (pc := 109) (n := 1) dX5_makeDeterminants_109 rfl ?_
    refine sm_iload (pc := 110) (n := 5) dX5_makeDeterminants_110 ?_
    refine sm_aaloadT (pc := 112) dX5_makeDeterminants_112 ?_
    refine sm_iload (pc := 113) (n := 6) dX5_makeDeterminants_113 ?_
    refine sm_aload_n (pc := 115) (n := 0) dX5_makeDeterminants_115 rfl ?_
    refine gf_X5_52 (pc := 116) rfl dX5_makeDeterminants_116 ?_
    refine sm_aload_n (pc := 119) (n := 2) dX5_makeDeterminants_119 rfl ?_
    refine sm_iload (pc := 120) (n := 5) dX5_makeDeterminants_120 ?_
    refine sm_ialoadQ (pc := 122) dX5_makeDeterminants_122 ?_
    refine sm_aaloadT (pc := 123) dX5_makeDeterminants_123 ?_
    refine sm_aload_n (pc := 124) (n := 2) dX5_makeDeterminants_124 rfl ?_
    refine sm_iload (pc := 125) (n := 6) dX5_makeDeterminants_125 ?_
    refine sm_ialoadQ (pc := 127) dX5_makeDeterminants_127 ?_
    refine sm_ialoadQ (pc := 128) dX5_makeDeterminants_128 ?_
    refine sm_i2l (pc := 129) dX5_makeDeterminants_129 ?_
    refine sm_lastore (pc := 130) dX5_makeDeterminants_130 ?_
    refine sm_iincR (pc := 131) (n := 6) dX5_makeDeterminants_131 zc_i_1 ?_
    refine sm_goto (pc := 134) (tgt := 102) dX5_makeDeterminants_134 (by decide) ?_
    exact hr102.use
noncomputable def lX5_makeDeterminantsa_92 {d : Nat} (P : zP d) (r22 : zK d) (r92 : zK d) : zK d := (xild 5 (xild 4 (xcmpS tgeR rlGe rhS rlS rhLt (xald 0 (xgfR 21 11 (xild 3 (xald 1 (xild 4 (xcS 2 0 0 (zstr f_X5_determinanta) (xl2i (xasQ 0 (fun v => v) (xincR 3 1 r22))))))))) (xpI 0 (xist 6 (xloop (fun r102 => (lX5_makeDeterminantsa_102 P r102 r92)) 100000))))))
set_option maxRecDepth 100000 in
set_option maxHeartbeats 4000000 in
theorem slX5_makeDeterminantsa_92 {d : Nat} [zGh] (P : zP d) (r22 : zK d) (r92 : zK d) (hr22 : zSimJ 1 X_X5_makeDeterminants 2 P 22 r22) (hr92 : zSimJ 1 X_X5_makeDeterminants 2 P 92 r92) : zSim X_X5_makeDeterminants 2 P 92 (lX5_makeDeterminantsa_92 P r22 r92) := by
  unfold lX5_makeDeterminantsa_92
  refine sm_iload (pc := 92) (n := 5) dX5_makeDeterminants_92 ?_
  refine sm_iload (pc := 94) (n := 4) dX5_makeDeterminants_94 ?_
  refine sm_icmpS_ge (pc := 96) (tgt := 143) dX5_makeDeterminants_96 (by decide) ?_ ?_
  · skip
    refine sm_aload_n (pc := 143) (n := 0) dX5_makeDeterminants_143 rfl ?_
    refine gf_X5_74 (pc := 144) rfl dX5_makeDeterminants_144 ?_
    refine sm_iload_n (pc := 147) (n := 3) dX5_makeDeterminants_147 rfl ?_
    refine sm_aload_n (pc := 148) (n := 1) dX5_makeDeterminants_148 rfl ?_
    refine sm_iload (pc := 149) (n := 4) dX5_makeDeterminants_149 ?_
    refine sm_cS (pc := 151) (n := 2) (mc := 0) (ms := 0) (zMet_str m_X5_determinanta) (cr_X5_173 (X := X_X5_makeDeterminants) (fr := 2) (frc := 1) (pc := 151) (mc := 0) (ms := 0) rfl (by decide) dX5_makeDeterminants_151) ?_
    refine sm_l2i (pc := 154) dX5_makeDeterminants_154 ?_
    refine sm_iastoreQ (pc := 155) dX5_makeDeterminants_155 ?_
    refine sm_iincR (pc := 156) (n := 3) dX5_makeDeterminants_156 zc_i_1 ?_
    refine sm_goto (pc := 159) (tgt := 22) dX5_makeDeterminants_159 (by decide) ?_
    exact hr22.use
  · skip
    refine sm_iconst (pc := 99) dX5_makeDeterminants_99 zc_i_0 ?_
    refine sm_istore (pc := 100) (n := 6) dX5_makeDeterminants_100 ?_
    exact (sm_loopJ (j := 1) (fun G1 hG1 r102 hr102 => @slX5_makeDeterminantsa_102 d G1 P r102 r92 hr102 (hr92.mv hG1 (by decide))) _).use
noncomputable def bX5_makeDeterminantsa_83 {d : Nat} (P : zP d) (r39 : zK d) : zK d := (xincR 5 1 r39)
set_option maxRecDepth 100000 in
set_option maxHeartbeats 4000000 in
theorem sbX5_makeDeterminantsa_83 {d : Nat} [zGh] (P : zP d) (r39 : zK d) (hr39 : zSimJ 1 X_X5_makeDeterminants 2 P 39 r39) : zSim X_X5_makeDeterminants 2 P 83 (bX5_makeDeterminantsa_83 P r39) := by
  unfold bX5_makeDeterminantsa_83
  refine sm_iincR (pc := 83) (n := 5) dX5_makeDeterminants_83 zc_i_1 ?_
  refine sm_goto (pc := 86) (tgt := 39) dX5_makeDeterminants_86 (by decide) ?_
  exact hr39.use
noncomputable def lX5_makeDeterminantsa_39 {d : Nat} (P : zP d) (r22 : zK d) (r39 : zK d) : zK d := (xild 5 (xald 0 (xgfR 21 0 (xgfI 23 1 (xcmpS tgeR rlGe rhS rlS rhLt (xpI 0 (xist 5 (xloop (fun r92 => (lX5_makeDeterminantsa_92 P r22 r92)) 100000))) (xald 0 (xild 5 (xcV 21 2 0 0 (zstr f_X5_isRegular) (xjoin (bX5_makeDeterminantsa_83 P r39) (fun j83 => (xif0S teqR rlEq rhEq rlNe rhNe j83 (xald 0 (xgfR 21 10 (xgfR 16 2 (xild 5 (xalQ 0 (xild 3 (xcmpS teqR rlEq rhEq rlNe rhNe (xald 2 (xild 4 (xild 5 (xasQ 0 (fun v => v) (xincR 4 1 j83))))) j83))))))))))))))))))
set_option maxRecDepth 100000 in
set_option maxHeartbeats 4000000 in
theorem slX5_makeDeterminantsa_39 {d : Nat} [zGh] (P : zP d) (r22 : zK d) (r39 : zK d) (hr22 : zSimJ 1 X_X5_makeDeterminants 2 P 22 r22) (hr39 : zSimJ 1 X_X5_makeDeterminants 2 P 39 r39) : zSim X_X5_makeDeterminants 2 P 39 (lX5_makeDeterminantsa_39 P r22 r39) := by
  unfold lX5_makeDeterminantsa_39
  refine sm_iload (pc := 39) (n := 5) dX5_makeDeterminants_39 ?_
  refine sm_aload_n (pc := 41) (n := 0) dX5_makeDeterminants_41 rfl ?_
  refine gf_X5_9 (pc := 42) rfl dX5_makeDeterminants_42 ?_
  refine gf_X5_19 (pc := 45) rfl dX5_makeDeterminants_45 ?_
  refine sm_icmpS_ge (pc := 48) (tgt := 89) dX5_makeDeterminants_48 (by decide) ?_ ?_
  · skip
    refine sm_iconst (pc := 89) dX5_makeDeterminants_89 zc_i_0 ?_
    refine sm_istore (pc := 90) (n := 5) dX5_makeDeterminants_90 ?_
    exact (sm_loopJ (j := 1) (fun G1 hG1 r92 hr92 => @slX5_makeDeterminantsa_92 d G1 P r22 r92 (hr22.mv hG1 (by decide)) hr92) _).use
  · skip
    refine sm_aload_n (pc := 51) (n := 0) dX5_makeDeterminants_51 rfl ?_
    refine sm_iload (pc := 52) (n := 5) dX5_makeDeterminants_52 ?_
    refine sm_cV (pc := 54) (ci := 5) (n := 2) (mc := 0) (ms := 0) rfl (zMet_str m_X5_isRegular) (cr_X5_117 (X := X_X5_makeDeterminants) (fr := 2) (frc := 1) (pc := 54) (mc := 0) (ms := 0) rfl (by decide) dX5_makeDeterminants_54) ?_
    refine sm_joinJ (pc := 57) (pc' := 83) (j := 1) (fun G0 hG0 => @sbX5_makeDeterminantsa_83 d G0 P r39 (hr39.mv hG0 (by decide))) (fun j83 hj83 => ?_)
    refine sm_ifS_eq (pc := 57) (tgt := 83) dX5_makeDeterminants_57 (by decide) ?_ ?_
    · skip
      exact hj83.use
    · skip
      refine sm_aload_n (pc := 60) (n := 0) dX5_makeDeterminants_60 rfl ?_
      refine gf_X5_69 (pc := 61) rfl dX5_makeDeterminants_61 ?_
      refine gf_X5_170 (pc := 64) rfl dX5_makeDeterminants_64 ?_
      refine sm_iload (pc := 67) (n := 5) dX5_makeDeterminants_67 ?_
      refine sm_ialoadQ (pc := 69) dX5_makeDeterminants_69 ?_
      refine sm_iload_n (pc := 70) (n := 3) dX5_makeDeterminants_70 rfl ?_
      refine sm_icmpS_ne (pc := 71) (tgt := 83) dX5_makeDeterminants_71 (by decide) ?_ ?_
      · skip
        exact hj83.use
      · skip
        refine sm_aload_n (pc := 74) (n := 2) dX5_makeDeterminants_74 rfl ?_
        refine sm_iload (pc := 75) (n := 4) dX5_makeDeterminants_75 ?_
        refine sm_iload (pc := 77) (n := 5) dX5_makeDeterminants_77 ?_
        refine sm_iastoreQ (pc := 79) dX5_makeDeterminants_79 ?_
        refine sm_iincR (pc := 80) (n := 4) dX5_makeDeterminants_80 zc_i_1 ?_
        exact hj83.use
noncomputable def lX5_makeDeterminantsa_22 {d : Nat} (P : zP d) (r22 : zK d) : zK d := (xild 3 (xald 0 (xgfR 21 10 (xgfI 16 3 (xcmpS tgeR rlGe rhS rlS rhLt (xvret P) (xpI 0 (xist 4 (xpI 0 (xist 5 (xloop (fun r39 => (lX5_makeDeterminantsa_39 P r22 r39)) 100000))))))))))
set_option maxRecDepth 100000 in
set_option maxHeartbeats 4000000 in
theorem slX5_makeDeterminantsa_22 {d : Nat} [zGh] (P : zP d) (r22 : zK d) (hr22 : zSimJ 1 X_X5_makeDeterminants 2 P 22 r22) : zSim X_X5_makeDeterminants 2 P 22 (lX5_makeDeterminantsa_22 P r22) := by
  unfold lX5_makeDeterminantsa_22
  refine sm_iload_n (pc := 22) (n := 3) dX5_makeDeterminants_22 rfl ?_
  refine sm_aload_n (pc := 23) (n := 0) dX5_makeDeterminants_23 rfl ?_
  refine gf_X5_69 (pc := 24) rfl dX5_makeDeterminants_24 ?_
  refine gf_X5_73 (pc := 27) rfl dX5_makeDeterminants_27 ?_
  refine sm_icmpS_ge (pc := 30) (tgt := 162) dX5_makeDeterminants_30 (by decide) ?_ ?_
  · skip
    exact sm_vreturn (pc := 162) dX5_makeDeterminants_162 rfl
  · skip
    refine sm_iconst (pc := 33) dX5_makeDeterminants_33 zc_i_0 ?_
    refine sm_istore (pc := 34) (n := 4) dX5_makeDeterminants_34 ?_
    refine sm_iconst (pc := 36) dX5_makeDeterminants_36 zc_i_0 ?_
    refine sm_istore (pc := 37) (n := 5) dX5_makeDeterminants_37 ?_
    exact (sm_loopJ (j := 1) (fun G1 hG1 r39 hr39 => @slX5_makeDeterminantsa_39 d G1 P r22 r39 (hr22.mv hG1 (by decide)) hr39) _).use
noncomputable def b_X5_makeDeterminantsa {d : Nat} (P : zP d) : zK d := (xald 0 (xgfI 21 3 (xald 0 (xgfI 21 3 (xmnaD 4 2 (xast 1 (xald 0 (xgfI 21 3 (xnwa 0 (xast 2 (xpI 0 (xist 3 (xloop (fun r22 => (lX5_makeDeterminantsa_22 P r22)) 100000)))))))))))))
set_option maxRecDepth 100000 in
set_option maxHeartbeats 4000000 in
theorem s_X5_makeDeterminantsa {d : Nat} [zGh] (P : zP d) : zSim X_X5_makeDeterminants 2 P 0 (b_X5_makeDeterminantsa P) := by
  unfold b_X5_makeDeterminantsa
  refine sm_aload_n (pc := 0) (n := 0) dX5_makeDeterminants_0 rfl ?_
  refine gf_X5_89 (pc := 1) rfl dX5_makeDeterminants_1 ?_
  refine sm_aload_n (pc := 4) (n := 0) dX5_makeDeterminants_4 rfl ?_
  refine gf_X5_89 (pc := 5) rfl dX5_makeDeterminants_5 ?_
  refine sm_mnaDJ (pc := 8) wd_483 wd_45 dX5_makeDeterminants_8 ?_
  refine sm_astore_n (pc := 12) (n := 1) dX5_makeDeterminants_12 rfl ?_
  refine sm_aload_n (pc := 13) (n := 0) dX5_makeDeterminants_13 rfl ?_
  refine gf_X5_89 (pc := 14) rfl dX5_makeDeterminants_14 ?_
  refine sm_newI (pc := 17) dX5_makeDeterminants_17 wd_46 ?_
  refine sm_astore_n (pc := 19) (n := 2) dX5_makeDeterminants_19 rfl ?_
  refine sm_iconst (pc := 20) dX5_makeDeterminants_20 zc_i_0 ?_
  refine sm_istore_n (pc := 21) (n := 3) dX5_makeDeterminants_21 rfl ?_
  exact (sm_loopJ (j := 1) (fun G1 hG1 r22 hr22 => @slX5_makeDeterminantsa_22 d G1 P r22 hr22) _).use
noncomputable def f_X5_makeDeterminantsa {d : Nat} : List zV → zH d → zP d → Bool := zfn 7 b_X5_makeDeterminantsa
theorem m_X5_makeDeterminantsa {d : Nat} : zMet (d := d) X_X5_makeDeterminants yX5_makeDeterminants 2 f_X5_makeDeterminantsa := zmet_mk (X := X_X5_makeDeterminants) (by decide) rfl rfl s_X5_makeDeterminantsa
end
