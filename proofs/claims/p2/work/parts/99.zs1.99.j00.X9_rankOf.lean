/-! the reference by summaries, by program -/
noncomputable def bX9_rankOfa_263 {d : Nat} (P : zP d) : zK d := (xild 2 (xiret P))
set_option maxRecDepth 100000 in
set_option maxHeartbeats 4000000 in
theorem sbX9_rankOfa_263 {d : Nat} [zGh] (P : zP d) : zSim X_X9_rankOf 2 P 263 (bX9_rankOfa_263 P) := by
  unfold bX9_rankOfa_263
  refine sm_iload_n (pc := 263) (n := 2) dX9_rankOf_263 rfl ?_
  exact sm_ireturn (pc := 264) dX9_rankOf_264 rfl
noncomputable def bX9_rankOfa_257 {d : Nat} (P : zP d) (r4 : zK d) : zK d := (xincR 3 1 r4)
set_option maxRecDepth 100000 in
set_option maxHeartbeats 4000000 in
theorem sbX9_rankOfa_257 {d : Nat} [zGh] (P : zP d) (r4 : zK d) (hr4 : zSimJ 2 X_X9_rankOf 2 P 4 r4) : zSim X_X9_rankOf 2 P 257 (bX9_rankOfa_257 P r4) := by
  unfold bX9_rankOfa_257
  refine sm_iincR (pc := 257) (n := 3) dX9_rankOf_257 zc_i_1 ?_
  refine sm_goto (pc := 260) (tgt := 4) dX9_rankOf_260 (by decide) ?_
  exact hr4.use
noncomputable def cX9_rankOfa_226 {d : Nat} (P : zP d) (r184 : zK d) : zK d := (xpI 16 (xild 2 (xbin zmulR (xild 8 (xbin zaddR (xalQ 0 (xbin zmulR (xbin zaddR (xald 0 (xgfI 25 1 (xbinN zremR (xasQ 0 (fun v => v) (xincR 8 1 r184)))))))))))))
set_option maxRecDepth 100000 in
set_option maxHeartbeats 4000000 in
theorem scX9_rankOfa_226 {d : Nat} [zGh] (P : zP d) (r184 : zK d) (hr184 : zSimJ 7 X_X9_rankOf 2 P 184 r184) : zSim X_X9_rankOf 2 P 226 (cX9_rankOfa_226 P r184) := by
  unfold cX9_rankOfa_226
  refine sm_bipush (pc := 226) dX9_rankOf_226 zc_b_16 ?_
  refine sm_iload_n (pc := 228) (n := 2) dX9_rankOf_228 rfl ?_
  refine sm_imulR (pc := 229) dX9_rankOf_229 ?_
  refine sm_iload (pc := 230) (n := 8) dX9_rankOf_230 ?_
  refine sm_iaddR (pc := 232) dX9_rankOf_232 ?_
  refine sm_ialoadQ (pc := 233) dX9_rankOf_233 ?_
  refine sm_imulR (pc := 234) dX9_rankOf_234 ?_
  refine sm_iaddR (pc := 235) dX9_rankOf_235 ?_
  refine sm_aload_n (pc := 236) (n := 0) dX9_rankOf_236 rfl ?_
  refine gf_X9_184 (pc := 237) rfl dX9_rankOf_237 ?_
  refine sm_iremR (pc := 240) dX9_rankOf_240 ?_
  refine sm_iastoreQ (pc := 241) dX9_rankOf_241 ?_
  refine sm_iincR (pc := 242) (n := 8) dX9_rankOf_242 zc_i_1 ?_
  refine sm_goto (pc := 245) (tgt := 184) dX9_rankOf_245 (by decide) ?_
  exact hr184.use
noncomputable def lX9_rankOfa_184 {d : Nat} (P : zP d) (r153 : zK d) (r184 : zK d) : zK d := (xild 8 (xild 1 (xcmpS tgeR rlGe rhS rlS rhLt (xincR 6 1 r153) (xald 0 (xgfR 25 34 (xpI 16 (xild 6 (xbin zmulR (xild 8 (xbin zaddR (xald 0 (xgfR 25 34 (xpI 16 (xild 6 (xbin zmulR (xild 8 (xbin zaddR (xalQ 0 (xald 0 (xgfI 25 1 (xild 7 (xbin zsubR (xald 0 (xgfR 25 34 (cX9_rankOfa_226 P r184)))))))))))))))))))))))))
set_option maxRecDepth 100000 in
set_option maxHeartbeats 4000000 in
theorem slX9_rankOfa_184 {d : Nat} [zGh] (P : zP d) (r153 : zK d) (r184 : zK d) (hr153 : zSimJ 6 X_X9_rankOf 2 P 153 r153) (hr184 : zSimJ 7 X_X9_rankOf 2 P 184 r184) : zSim X_X9_rankOf 2 P 184 (lX9_rankOfa_184 P r153 r184) := by
  unfold lX9_rankOfa_184
  refine sm_iload (pc := 184) (n := 8) dX9_rankOf_184 ?_
  refine sm_iload_n (pc := 186) (n := 1) dX9_rankOf_186 rfl ?_
  refine sm_icmpS_ge (pc := 187) (tgt := 248) dX9_rankOf_187 (by decide) ?_ ?_
  · skip
    refine sm_iincR (pc := 248) (n := 6) dX9_rankOf_248 zc_i_1 ?_
    refine sm_goto (pc := 251) (tgt := 153) dX9_rankOf_251 (by decide) ?_
    exact hr153.use
  · skip
    refine sm_aload_n (pc := 190) (n := 0) dX9_rankOf_190 rfl ?_
    refine gf_X9_87 (pc := 191) rfl dX9_rankOf_191 ?_
    refine sm_bipush (pc := 194) dX9_rankOf_194 zc_b_16 ?_
    refine sm_iload (pc := 196) (n := 6) dX9_rankOf_196 ?_
    refine sm_imulR (pc := 198) dX9_rankOf_198 ?_
    refine sm_iload (pc := 199) (n := 8) dX9_rankOf_199 ?_
    refine sm_iaddR (pc := 201) dX9_rankOf_201 ?_
    refine sm_aload_n (pc := 202) (n := 0) dX9_rankOf_202 rfl ?_
    refine gf_X9_87 (pc := 203) rfl dX9_rankOf_203 ?_
    refine sm_bipush (pc := 206) dX9_rankOf_206 zc_b_16 ?_
    refine sm_iload (pc := 208) (n := 6) dX9_rankOf_208 ?_
    refine sm_imulR (pc := 210) dX9_rankOf_210 ?_
    refine sm_iload (pc := 211) (n := 8) dX9_rankOf_211 ?_
    refine sm_iaddR (pc := 213) dX9_rankOf_213 ?_
    refine sm_ialoadQ (pc := 214) dX9_rankOf_214 ?_
    refine sm_aload_n (pc := 215) (n := 0) dX9_rankOf_215 rfl ?_
    refine gf_X9_184 (pc := 216) rfl dX9_rankOf_216 ?_
    refine sm_iload (pc := 219) (n := 7) dX9_rankOf_219 ?_
    refine sm_isubR (pc := 221) dX9_rankOf_221 ?_
    refine sm_aload_n (pc := 222) (n := 0) dX9_rankOf_222 rfl ?_
    refine gf_X9_87 (pc := 223) rfl dX9_rankOf_223 ?_
    exact scX9_rankOfa_226 P r184 hr184
noncomputable def lX9_rankOfa_153 {d : Nat} (P : zP d) (j257 : zK d) (r153 : zK d) : zK d := (xild 6 (xild 1 (xcmpS tgeR rlGe rhS rlS rhLt (xincR 2 1 j257) (xald 0 (xgfR 25 34 (xpI 16 (xild 6 (xbin zmulR (xild 3 (xbin zaddR (xalQ 0 (xild 5 (xbin zmulR (xald 0 (xgfI 25 1 (xbinN zremR (xist 7 (xild 3 (xist 8 (xlp 8 6 (hsL 1) wkE (fun r184 => (lX9_rankOfa_184 P r153 r184))))))))))))))))))))))
set_option maxRecDepth 100000 in
set_option maxHeartbeats 4000000 in
theorem slX9_rankOfa_153 {d : Nat} [zGh] (P : zP d) (j257 : zK d) (r153 : zK d) (hj257 : zSimJ 4 X_X9_rankOf 2 P 257 j257) (hr153 : zSimJ 6 X_X9_rankOf 2 P 153 r153) : zSim X_X9_rankOf 2 P 153 (lX9_rankOfa_153 P j257 r153) := by
  unfold lX9_rankOfa_153
  refine sm_iload (pc := 153) (n := 6) dX9_rankOf_153 ?_
  refine sm_iload_n (pc := 155) (n := 1) dX9_rankOf_155 rfl ?_
  refine sm_icmpS_ge (pc := 156) (tgt := 254) dX9_rankOf_156 (by decide) ?_ ?_
  · skip
    refine sm_iincR (pc := 254) (n := 2) dX9_rankOf_254 zc_i_1 ?_
    exact hj257.use
  · skip
    refine sm_aload_n (pc := 159) (n := 0) dX9_rankOf_159 rfl ?_
    refine gf_X9_87 (pc := 160) rfl dX9_rankOf_160 ?_
    refine sm_bipush (pc := 163) dX9_rankOf_163 zc_b_16 ?_
    refine sm_iload (pc := 165) (n := 6) dX9_rankOf_165 ?_
    refine sm_imulR (pc := 167) dX9_rankOf_167 ?_
    refine sm_iload_n (pc := 168) (n := 3) dX9_rankOf_168 rfl ?_
    refine sm_iaddR (pc := 169) dX9_rankOf_169 ?_
    refine sm_ialoadQ (pc := 170) dX9_rankOf_170 ?_
    refine sm_iload (pc := 171) (n := 5) dX9_rankOf_171 ?_
    refine sm_imulR (pc := 173) dX9_rankOf_173 ?_
    refine sm_aload_n (pc := 174) (n := 0) dX9_rankOf_174 rfl ?_
    refine gf_X9_184 (pc := 175) rfl dX9_rankOf_175 ?_
    refine sm_iremR (pc := 178) dX9_rankOf_178 ?_
    refine sm_istore (pc := 179) (n := 7) dX9_rankOf_179 ?_
    refine sm_iload_n (pc := 181) (n := 3) dX9_rankOf_181 rfl ?_
    refine sm_istore (pc := 182) (n := 8) dX9_rankOf_182 ?_
    exact sm_lp (i := 8) (j := 6) (by decide) (by decide) hsL_ok wkE_ok (fun G1 hG1 r184 hr184 => @slX9_rankOfa_184 d G1 P r153 r184 (hr153.mv hG1 (by decide)) hr184)
noncomputable def cX9_rankOfa_97 {d : Nat} (P : zP d) (r56 : zK d) : zK d := (xild 5 (xbin zaddR (xalQ 0 (xasQ 0 (fun v => v) (xald 0 (xgfR 25 34 (xpI 16 (xild 2 (xbin zmulR (xild 5 (xbin zaddR (xild 6 (xasQ 0 (fun v => v) (xincR 5 1 r56))))))))))))))
set_option maxRecDepth 100000 in
set_option maxHeartbeats 4000000 in
theorem scX9_rankOfa_97 {d : Nat} [zGh] (P : zP d) (r56 : zK d) (hr56 : zSimJ 5 X_X9_rankOf 2 P 56 r56) : zSim X_X9_rankOf 2 P 97 (cX9_rankOfa_97 P r56) := by
  unfold cX9_rankOfa_97
  refine sm_iload (pc := 97) (n := 5) dX9_rankOf_97 ?_
  refine sm_iaddR (pc := 99) dX9_rankOf_99 ?_
  refine sm_ialoadQ (pc := 100) dX9_rankOf_100 ?_
  refine sm_iastoreQ (pc := 101) dX9_rankOf_101 ?_
  refine sm_aload_n (pc := 102) (n := 0) dX9_rankOf_102 rfl ?_
  refine gf_X9_87 (pc := 103) rfl dX9_rankOf_103 ?_
  refine sm_bipush (pc := 106) dX9_rankOf_106 zc_b_16 ?_
  refine sm_iload_n (pc := 108) (n := 2) dX9_rankOf_108 rfl ?_
  refine sm_imulR (pc := 109) dX9_rankOf_109 ?_
  refine sm_iload (pc := 110) (n := 5) dX9_rankOf_110 ?_
  refine sm_iaddR (pc := 112) dX9_rankOf_112 ?_
  refine sm_iload (pc := 113) (n := 6) dX9_rankOf_113 ?_
  refine sm_iastoreQ (pc := 115) dX9_rankOf_115 ?_
  refine sm_iincR (pc := 116) (n := 5) dX9_rankOf_116 zc_i_1 ?_
  refine sm_goto (pc := 119) (tgt := 56) dX9_rankOf_119 (by decide) ?_
  exact hr56.use
noncomputable def lX9_rankOfa_56 {d : Nat} (P : zP d) (j257 : zK d) (r56 : zK d) : zK d := (xild 5 (xild 1 (xcmpS tgeR rlGe rhS rlS rhLt (xald 0 (xgfR 25 34 (xpI 16 (xild 2 (xbin zmulR (xild 3 (xbin zaddR (xalQ 0 (xald 0 (xgfI 25 1 (xpI 2 (xbin zsubR (xald 0 (xgfI 25 1 (xcS 3 0 0 (zstr f_X9_powera) (xist 5 (xild 2 (xpI 1 (xbin zaddR (xist 6 (xlp 6 5 (hsC 18) wkE (fun r153 => (lX9_rankOfa_153 P j257 r153))))))))))))))))))))))) (xald 0 (xgfR 25 34 (xpI 16 (xild 4 (xbin zmulR (xild 5 (xbin zaddR (xalQ 0 (xist 6 (xald 0 (xgfR 25 34 (xpI 16 (xild 4 (xbin zmulR (xild 5 (xbin zaddR (xald 0 (xgfR 25 34 (xpI 16 (xild 2 (xbin zmulR (cX9_rankOfa_97 P r56)))))))))))))))))))))))))
set_option maxRecDepth 100000 in
set_option maxHeartbeats 4000000 in
theorem slX9_rankOfa_56 {d : Nat} [zGh] (P : zP d) (j257 : zK d) (r56 : zK d) (hj257 : zSimJ 4 X_X9_rankOf 2 P 257 j257) (hr56 : zSimJ 5 X_X9_rankOf 2 P 56 r56) : zSim X_X9_rankOf 2 P 56 (lX9_rankOfa_56 P j257 r56) := by
  unfold lX9_rankOfa_56
  refine sm_iload (pc := 56) (n := 5) dX9_rankOf_56 ?_
  refine sm_iload_n (pc := 58) (n := 1) dX9_rankOf_58 rfl ?_
  refine sm_icmpS_ge (pc := 59) (tgt := 122) dX9_rankOf_59 (by decide) ?_ ?_
  · skip
    refine sm_aload_n (pc := 122) (n := 0) dX9_rankOf_122 rfl ?_
    refine gf_X9_87 (pc := 123) rfl dX9_rankOf_123 ?_
    refine sm_bipush (pc := 126) dX9_rankOf_126 zc_b_16 ?_
    refine sm_iload_n (pc := 128) (n := 2) dX9_rankOf_128 rfl ?_
    refine sm_imulR (pc := 129) dX9_rankOf_129 ?_
    refine sm_iload_n (pc := 130) (n := 3) dX9_rankOf_130 rfl ?_
    refine sm_iaddR (pc := 131) dX9_rankOf_131 ?_
    refine sm_ialoadQ (pc := 132) dX9_rankOf_132 ?_
    refine sm_aload_n (pc := 133) (n := 0) dX9_rankOf_133 rfl ?_
    refine gf_X9_184 (pc := 134) rfl dX9_rankOf_134 ?_
    refine sm_iconst (pc := 137) dX9_rankOf_137 zc_i_2 ?_
    refine sm_isubR (pc := 138) dX9_rankOf_138 ?_
    refine sm_aload_n (pc := 139) (n := 0) dX9_rankOf_139 rfl ?_
    refine gf_X9_184 (pc := 140) rfl dX9_rankOf_140 ?_
    refine sm_cS (pc := 143) (n := 3) (mc := 0) (ms := 0) (zMet_str m_X9_powera) (cr_X9_238 (X := X_X9_rankOf) (fr := 2) (frc := 1) (pc := 143) (mc := 0) (ms := 0) rfl (by decide) dX9_rankOf_143) ?_
    refine sm_istore (pc := 146) (n := 5) dX9_rankOf_146 ?_
    refine sm_iload_n (pc := 148) (n := 2) dX9_rankOf_148 rfl ?_
    refine sm_iconst (pc := 149) dX9_rankOf_149 zc_i_1 ?_
    refine sm_iaddR (pc := 150) dX9_rankOf_150 ?_
    refine sm_istore (pc := 151) (n := 6) dX9_rankOf_151 ?_
    exact sm_lp (i := 6) (j := 5) (by decide) (by decide) hsC_ok wkE_ok (fun G1 hG1 r153 hr153 => @slX9_rankOfa_153 d G1 P j257 r153 (hj257.mv hG1 (by decide)) hr153)
  · skip
    refine sm_aload_n (pc := 62) (n := 0) dX9_rankOf_62 rfl ?_
    refine gf_X9_87 (pc := 63) rfl dX9_rankOf_63 ?_
    refine sm_bipush (pc := 66) dX9_rankOf_66 zc_b_16 ?_
    refine sm_iload (pc := 68) (n := 4) dX9_rankOf_68 ?_
    refine sm_imulR (pc := 70) dX9_rankOf_70 ?_
    refine sm_iload (pc := 71) (n := 5) dX9_rankOf_71 ?_
    refine sm_iaddR (pc := 73) dX9_rankOf_73 ?_
    refine sm_ialoadQ (pc := 74) dX9_rankOf_74 ?_
    refine sm_istore (pc := 75) (n := 6) dX9_rankOf_75 ?_
    refine sm_aload_n (pc := 77) (n := 0) dX9_rankOf_77 rfl ?_
    refine gf_X9_87 (pc := 78) rfl dX9_rankOf_78 ?_
    refine sm_bipush (pc := 81) dX9_rankOf_81 zc_b_16 ?_
    refine sm_iload (pc := 83) (n := 4) dX9_rankOf_83 ?_
    refine sm_imulR (pc := 85) dX9_rankOf_85 ?_
    refine sm_iload (pc := 86) (n := 5) dX9_rankOf_86 ?_
    refine sm_iaddR (pc := 88) dX9_rankOf_88 ?_
    refine sm_aload_n (pc := 89) (n := 0) dX9_rankOf_89 rfl ?_
    refine gf_X9_87 (pc := 90) rfl dX9_rankOf_90 ?_
    refine sm_bipush (pc := 93) dX9_rankOf_93 zc_b_16 ?_
    refine sm_iload_n (pc := 95) (n := 2) dX9_rankOf_95 rfl ?_
    refine sm_imulR (pc := 96) dX9_rankOf_96 ?_
    exact scX9_rankOfa_97 P r56 hr56
noncomputable def bX9_rankOfa_44 {d : Nat} (P : zP d) (r4 : zK d) : zK d := (xild 4 (xild 1 (xjoin (bX9_rankOfa_257 P r4) (fun j257 => (xcmpS teqR rlEq rhEq rlNe rhNe j257 (xpI 0 (xist 5 (xlp 5 4 (hsL 1) wkE (fun r56 => (lX9_rankOfa_56 P j257 r56))))))))))
set_option maxRecDepth 100000 in
set_option maxHeartbeats 4000000 in
theorem sbX9_rankOfa_44 {d : Nat} [zGh] (P : zP d) (r4 : zK d) (hr4 : zSimJ 2 X_X9_rankOf 2 P 4 r4) : zSim X_X9_rankOf 2 P 44 (bX9_rankOfa_44 P r4) := by
  unfold bX9_rankOfa_44
  refine sm_iload (pc := 44) (n := 4) dX9_rankOf_44 ?_
  refine sm_iload_n (pc := 46) (n := 1) dX9_rankOf_46 rfl ?_
  refine sm_joinJ (pc := 47) (pc' := 257) (j := 4) (fun G0 hG0 => @sbX9_rankOfa_257 d G0 P r4 (hr4.mv hG0 (by decide))) (fun j257 hj257 => ?_)
  refine sm_icmpS_ne (pc := 47) (tgt := 53) dX9_rankOf_47 (by decide) ?_ ?_
  · skip
    refine sm_iconst (pc := 53) dX9_rankOf_53 zc_i_0 ?_
    refine sm_istore (pc := 54) (n := 5) dX9_rankOf_54 ?_
    exact sm_lp (i := 5) (j := 4) (by decide) (by decide) hsL_ok wkE_ok (fun G1 hG1 r56 hr56 => @slX9_rankOfa_56 d G1 P j257 r56 (hj257.mv hG1 (by decide)) hr56)
  · skip
    refine sm_goto (pc := 50) (tgt := 257) dX9_rankOf_50 (by decide) ?_
    exact hj257.use
noncomputable def lX9_rankOfa_17 {d : Nat} (P : zP d) (r17 : zK d) (r4 : zK d) : zK d := (xild 4 (xild 1 (xjoin (bX9_rankOfa_44 P r4) (fun j44 => (xcmpS tgeR rlGe rhS rlS rhLt j44 (xald 0 (xgfR 25 34 (xpI 16 (xild 4 (xbin zmulR (xild 3 (xbin zaddR (xalQ 0 (xif0S teqR rlEq rhEq rlNe rhNe (xincR 4 1 r17) j44))))))))))))))
set_option maxRecDepth 100000 in
set_option maxHeartbeats 4000000 in
theorem slX9_rankOfa_17 {d : Nat} [zGh] (P : zP d) (r17 : zK d) (r4 : zK d) (hr17 : zSimJ 4 X_X9_rankOf 2 P 17 r17) (hr4 : zSimJ 2 X_X9_rankOf 2 P 4 r4) : zSim X_X9_rankOf 2 P 17 (lX9_rankOfa_17 P r17 r4) := by
  unfold lX9_rankOfa_17
  refine sm_iload (pc := 17) (n := 4) dX9_rankOf_17 ?_
  refine sm_iload_n (pc := 19) (n := 1) dX9_rankOf_19 rfl ?_
  refine sm_joinJ (pc := 20) (pc' := 44) (j := 4) (fun G0 hG0 => @sbX9_rankOfa_44 d G0 P r4 (hr4.mv hG0 (by decide))) (fun j44 hj44 => ?_)
  refine sm_icmpS_ge (pc := 20) (tgt := 44) dX9_rankOf_20 (by decide) ?_ ?_
  · skip
    exact hj44.use
  · skip
    refine sm_aload_n (pc := 23) (n := 0) dX9_rankOf_23 rfl ?_
    refine gf_X9_87 (pc := 24) rfl dX9_rankOf_24 ?_
    refine sm_bipush (pc := 27) dX9_rankOf_27 zc_b_16 ?_
    refine sm_iload (pc := 29) (n := 4) dX9_rankOf_29 ?_
    refine sm_imulR (pc := 31) dX9_rankOf_31 ?_
    refine sm_iload_n (pc := 32) (n := 3) dX9_rankOf_32 rfl ?_
    refine sm_iaddR (pc := 33) dX9_rankOf_33 ?_
    refine sm_ialoadQ (pc := 34) dX9_rankOf_34 ?_
    refine sm_ifS_ne (pc := 35) (tgt := 44) dX9_rankOf_35 (by decide) ?_ ?_
    · skip
      exact hj44.use
    · skip
      refine sm_iincR (pc := 38) (n := 4) dX9_rankOf_38 zc_i_1 ?_
      refine sm_goto (pc := 41) (tgt := 17) dX9_rankOf_41 (by decide) ?_
      exact hr17.use
noncomputable def yX9_rankOfa_9 {d : Nat} (P : zP d) (j263 : zK d) (r4 : zK d) : zK d := (xild 2 (xild 1 (xcmpS tgeR rlGe rhS rlS rhLt j263 (xild 2 (xist 4 (xlp 4 3 (hsL 1) wkE (fun r17 => (lX9_rankOfa_17 P r17 r4))))))))
set_option maxRecDepth 100000 in
set_option maxHeartbeats 4000000 in
theorem syX9_rankOfa_9 {d : Nat} [zGh] (P : zP d) (j263 : zK d) (r4 : zK d) (hj263 : zSimJ 2 X_X9_rankOf 2 P 263 j263) (hr4 : zSimJ 2 X_X9_rankOf 2 P 4 r4) : zSim X_X9_rankOf 2 P 9 (yX9_rankOfa_9 P j263 r4) := by
  unfold yX9_rankOfa_9
  refine sm_iload_n (pc := 9) (n := 2) dX9_rankOf_9 rfl ?_
  refine sm_iload_n (pc := 10) (n := 1) dX9_rankOf_10 rfl ?_
  refine sm_icmpS_ge (pc := 11) (tgt := 263) dX9_rankOf_11 (by decide) ?_ ?_
  · skip
    exact hj263.use
  · skip
    refine sm_iload_n (pc := 14) (n := 2) dX9_rankOf_14 rfl ?_
    refine sm_istore (pc := 15) (n := 4) dX9_rankOf_15 ?_
    exact sm_lp (i := 4) (j := 3) (by decide) (by decide) hsL_ok wkE_ok (fun G1 hG1 r17 hr17 => @slX9_rankOfa_17 d G1 P r17 r4 hr17 (hr4.mv hG1 (by decide)))
noncomputable def lX9_rankOfa_4 {d : Nat} (P : zP d) (r4 : zK d) : zK d := (xild 3 (xild 1 (xjn (wkB 2 1 (wkU 3 wkE)) (zsp [] 2) (bX9_rankOfa_263 P) (fun j263 => (xcmpS tgeR rlGe rhS rlS rhLt j263 (xsym 2 2 (yX9_rankOfa_9 P j263 r4)))))))
set_option maxRecDepth 100000 in
set_option maxHeartbeats 4000000 in
theorem slX9_rankOfa_4 {d : Nat} [zGh] (P : zP d) (r4 : zK d) (hr4 : zSimJ 2 X_X9_rankOf 2 P 4 r4) : zSim X_X9_rankOf 2 P 4 (lX9_rankOfa_4 P r4) := by
  unfold lX9_rankOfa_4
  refine sm_iload_n (pc := 4) (n := 3) dX9_rankOf_4 rfl ?_
  refine sm_iload_n (pc := 5) (n := 1) dX9_rankOf_5 rfl ?_
  refine sm_jn (pc := 6) (pc' := 263) (j := 2) (wkB_ok (wkU_ok wkE_ok)) (zsp_ok _ _) (fun G0 hG0 => @sbX9_rankOfa_263 d G0 P) (fun j263 hj263 => ?_)
  refine sm_icmpS_ge (pc := 6) (tgt := 263) dX9_rankOf_6 (by decide) ?_ ?_
  · skip
    exact hj263.use
  · skip
    exact sm_sym (i := 2) (j := 2) (by decide) (fun G1 hG1 => @syX9_rankOfa_9 d G1 P j263 r4 (hj263.mv hG1 (by decide)) (hr4.mv hG1 (by decide)))
noncomputable def b_X9_rankOfa {d : Nat} (P : zP d) : zK d := (xpI 0 (xist 2 (xpI 0 (xist 3 (xlp 3 1 (hsL 1) (wkB 2 1 (wkA 0 [34] 4294967296 wkE)) (fun r4 => (lX9_rankOfa_4 P r4)))))))
set_option maxRecDepth 100000 in
set_option maxHeartbeats 4000000 in
theorem s_X9_rankOfa {d : Nat} [zGh] (P : zP d) : zSim X_X9_rankOf 2 P 0 (b_X9_rankOfa P) := by
  unfold b_X9_rankOfa
  refine sm_iconst (pc := 0) dX9_rankOf_0 zc_i_0 ?_
  refine sm_istore_n (pc := 1) (n := 2) dX9_rankOf_1 rfl ?_
  refine sm_iconst (pc := 2) dX9_rankOf_2 zc_i_0 ?_
  refine sm_istore_n (pc := 3) (n := 3) dX9_rankOf_3 rfl ?_
  exact sm_lp (i := 3) (j := 1) (by decide) (by decide) hsL_ok (wkB_ok (wkA_ok wkE_ok)) (fun G1 hG1 r4 hr4 => @slX9_rankOfa_4 d G1 P r4 hr4)
noncomputable def f_X9_rankOfa {d : Nat} : List zV → zH d → zP d → Bool := zfn 9 b_X9_rankOfa
theorem m_X9_rankOfa {d : Nat} : zMet (d := d) X_X9_rankOf yX9_rankOf 2 f_X9_rankOfa := zmet_mk (X := X_X9_rankOf) (by decide) rfl rfl s_X9_rankOfa

noncomputable def h0_X9_rankOf_0 : zH 1 := (show zT 1 from ((25, 63, bg_201), (0, 256, zun 40 256 4294967296)), (2, (0, 0)))
noncomputable def h1_X9_rankOf_0 : zH 1 := (show zT 1 from ((25, 63, bg_201), (0, 256, zun 40 256 4294967296)), (2, (0, 0)))
theorem ev_X9_rankOf_0 : f_X9_rankOfa [zR 1, zI 1] h0_X9_rankOf_0 (zrk (zI 4294967298) h1_X9_rankOf_0) = true := by decide +kernel
noncomputable def g_X9_rankOf_0 {d : Nat} : List zV → zH d → zP d → Bool := zsmy [(0, 0), (1, 34)] [zR 1, zI 1] h0_X9_rankOf_0 (zI 4294967298) h1_X9_rankOf_0
theorem mg_X9_rankOf_0 {d : Nat} : zMet (d := d) X_X9_rankOf yX9_rankOf 2 g_X9_rankOf_0 := zMet_sm m_X9_rankOfa ev_X9_rankOf_0
noncomputable def h0_X9_rankOf_1 : zH 1 := (show zT 1 from ((25, 63, bg_202), (0, 256, zun 40 256 4294967296)), (2, (0, 0)))
noncomputable def h1_X9_rankOf_1 : zH 1 := (show zT 1 from ((25, 63, bg_202), (0, 256, zun 40 256 4294967296)), (2, (0, 0)))
theorem ev_X9_rankOf_1 : f_X9_rankOfa [zR 1, zI 1] h0_X9_rankOf_1 (zrk (zI 4294967298) h1_X9_rankOf_1) = true := by decide +kernel
noncomputable def g_X9_rankOf_1 {d : Nat} : List zV → zH d → zP d → Bool := zsmy [(0, 0), (1, 34)] [zR 1, zI 1] h0_X9_rankOf_1 (zI 4294967298) h1_X9_rankOf_1
theorem mg_X9_rankOf_1 {d : Nat} : zMet (d := d) X_X9_rankOf yX9_rankOf 2 g_X9_rankOf_1 := zMet_sm m_X9_rankOfa ev_X9_rankOf_1
noncomputable def h0_X9_rankOf_2 : zH 1 := (show zT 1 from ((25, 63, bg_203), (0, 256, zun 40 256 4294967296)), (2, (0, 0)))
noncomputable def h1_X9_rankOf_2 : zH 1 := (show zT 1 from ((25, 63, bg_203), (0, 256, zun 40 256 4294967296)), (2, (0, 0)))
theorem ev_X9_rankOf_2 : f_X9_rankOfa [zR 1, zI 1] h0_X9_rankOf_2 (zrk (zI 4294967298) h1_X9_rankOf_2) = true := by decide +kernel
noncomputable def g_X9_rankOf_2 {d : Nat} : List zV → zH d → zP d → Bool := zsmy [(0, 0), (1, 34)] [zR 1, zI 1] h0_X9_rankOf_2 (zI 4294967298) h1_X9_rankOf_2
theorem mg_X9_rankOf_2 {d : Nat} : zMet (d := d) X_X9_rankOf yX9_rankOf 2 g_X9_rankOf_2 := zMet_sm m_X9_rankOfa ev_X9_rankOf_2
noncomputable def h0_X9_rankOf_3 : zH 1 := (show zT 1 from ((25, 63, bg_204), (0, 256, zun 40 256 4294967296)), (2, (0, 0)))
noncomputable def h1_X9_rankOf_3 : zH 1 := (show zT 1 from ((25, 63, bg_204), (0, 256, zun 40 256 4294967296)), (2, (0, 0)))
theorem ev_X9_rankOf_3 : f_X9_rankOfa [zR 1, zI 1] h0_X9_rankOf_3 (zrk (zI 4294967298) h1_X9_rankOf_3) = true := by decide +kernel
noncomputable def g_X9_rankOf_3 {d : Nat} : List zV → zH d → zP d → Bool := zsmy [(0, 0), (1, 34)] [zR 1, zI 1] h0_X9_rankOf_3 (zI 4294967298) h1_X9_rankOf_3
theorem mg_X9_rankOf_3 {d : Nat} : zMet (d := d) X_X9_rankOf yX9_rankOf 2 g_X9_rankOf_3 := zMet_sm m_X9_rankOfa ev_X9_rankOf_3
noncomputable def h0_X9_rankOf_4 : zH 1 := (show zT 1 from ((25, 63, bg_201), (0, 256, zun 40 256 4294967296)), (2, (0, 0)))
noncomputable def h1_X9_rankOf_4 : zH 1 := (show zT 1 from ((25, 63, bg_201), (0, 256, zun 40 256 4294967296)), (2, (0, 0)))
theorem ev_X9_rankOf_4 : f_X9_rankOfa [zR 1, zI 2] h0_X9_rankOf_4 (zrk (zI 4294967299) h1_X9_rankOf_4) = true := by decide +kernel
noncomputable def g_X9_rankOf_4 {d : Nat} : List zV → zH d → zP d → Bool := zsmy [(0, 0), (1, 34)] [zR 1, zI 2] h0_X9_rankOf_4 (zI 4294967299) h1_X9_rankOf_4
theorem mg_X9_rankOf_4 {d : Nat} : zMet (d := d) X_X9_rankOf yX9_rankOf 2 g_X9_rankOf_4 := zMet_sm m_X9_rankOfa ev_X9_rankOf_4
noncomputable def h0_X9_rankOf_5 : zH 1 := (show zT 1 from ((25, 63, bg_202), (0, 256, zun 40 256 4294967296)), (2, (0, 0)))
noncomputable def h1_X9_rankOf_5 : zH 1 := (show zT 1 from ((25, 63, bg_202), (0, 256, zun 40 256 4294967296)), (2, (0, 0)))
theorem ev_X9_rankOf_5 : f_X9_rankOfa [zR 1, zI 2] h0_X9_rankOf_5 (zrk (zI 4294967299) h1_X9_rankOf_5) = true := by decide +kernel
noncomputable def g_X9_rankOf_5 {d : Nat} : List zV → zH d → zP d → Bool := zsmy [(0, 0), (1, 34)] [zR 1, zI 2] h0_X9_rankOf_5 (zI 4294967299) h1_X9_rankOf_5
theorem mg_X9_rankOf_5 {d : Nat} : zMet (d := d) X_X9_rankOf yX9_rankOf 2 g_X9_rankOf_5 := zMet_sm m_X9_rankOfa ev_X9_rankOf_5
noncomputable def h0_X9_rankOf_6 : zH 1 := (show zT 1 from ((25, 63, bg_203), (0, 256, zun 40 256 4294967296)), (2, (0, 0)))
noncomputable def h1_X9_rankOf_6 : zH 1 := (show zT 1 from ((25, 63, bg_203), (0, 256, zun 40 256 4294967296)), (2, (0, 0)))
theorem ev_X9_rankOf_6 : f_X9_rankOfa [zR 1, zI 2] h0_X9_rankOf_6 (zrk (zI 4294967299) h1_X9_rankOf_6) = true := by decide +kernel
noncomputable def g_X9_rankOf_6 {d : Nat} : List zV → zH d → zP d → Bool := zsmy [(0, 0), (1, 34)] [zR 1, zI 2] h0_X9_rankOf_6 (zI 4294967299) h1_X9_rankOf_6
theorem mg_X9_rankOf_6 {d : Nat} : zMet (d := d) X_X9_rankOf yX9_rankOf 2 g_X9_rankOf_6 := zMet_sm m_X9_rankOfa ev_X9_rankOf_6
noncomputable def h0_X9_rankOf_7 : zH 1 := (show zT 1 from ((25, 63, bg_204), (0, 256, zun 40 256 4294967296)), (2, (0, 0)))
noncomputable def h1_X9_rankOf_7 : zH 1 := (show zT 1 from ((25, 63, bg_204), (0, 256, zun 40 256 4294967296)), (2, (0, 0)))
theorem ev_X9_rankOf_7 : f_X9_rankOfa [zR 1, zI 2] h0_X9_rankOf_7 (zrk (zI 4294967299) h1_X9_rankOf_7) = true := by decide +kernel
noncomputable def g_X9_rankOf_7 {d : Nat} : List zV → zH d → zP d → Bool := zsmy [(0, 0), (1, 34)] [zR 1, zI 2] h0_X9_rankOf_7 (zI 4294967299) h1_X9_rankOf_7
theorem mg_X9_rankOf_7 {d : Nat} : zMet (d := d) X_X9_rankOf yX9_rankOf 2 g_X9_rankOf_7 := zMet_sm m_X9_rankOfa ev_X9_rankOf_7
noncomputable def h0_X9_rankOf_8 : zH 1 := (show zT 1 from ((25, 63, bg_201), (0, 256, zun 40 256 4294967296)), (2, (0, 0)))
noncomputable def h1_X9_rankOf_8 : zH 1 := (show zT 1 from ((25, 63, bg_201), (0, 256, zun 40 256 4294967296)), (2, (0, 0)))
theorem ev_X9_rankOf_8 : f_X9_rankOfa [zR 1, zI 3] h0_X9_rankOf_8 (zrk (zI 4294967300) h1_X9_rankOf_8) = true := by decide +kernel
noncomputable def g_X9_rankOf_8 {d : Nat} : List zV → zH d → zP d → Bool := zsmy [(0, 0), (1, 34)] [zR 1, zI 3] h0_X9_rankOf_8 (zI 4294967300) h1_X9_rankOf_8
theorem mg_X9_rankOf_8 {d : Nat} : zMet (d := d) X_X9_rankOf yX9_rankOf 2 g_X9_rankOf_8 := zMet_sm m_X9_rankOfa ev_X9_rankOf_8
noncomputable def h0_X9_rankOf_9 : zH 1 := (show zT 1 from ((25, 63, bg_202), (0, 256, zun 40 256 4294967296)), (2, (0, 0)))
noncomputable def h1_X9_rankOf_9 : zH 1 := (show zT 1 from ((25, 63, bg_202), (0, 256, zun 40 256 4294967296)), (2, (0, 0)))
theorem ev_X9_rankOf_9 : f_X9_rankOfa [zR 1, zI 3] h0_X9_rankOf_9 (zrk (zI 4294967300) h1_X9_rankOf_9) = true := by decide +kernel
noncomputable def g_X9_rankOf_9 {d : Nat} : List zV → zH d → zP d → Bool := zsmy [(0, 0), (1, 34)] [zR 1, zI 3] h0_X9_rankOf_9 (zI 4294967300) h1_X9_rankOf_9
theorem mg_X9_rankOf_9 {d : Nat} : zMet (d := d) X_X9_rankOf yX9_rankOf 2 g_X9_rankOf_9 := zMet_sm m_X9_rankOfa ev_X9_rankOf_9
noncomputable def h0_X9_rankOf_10 : zH 1 := (show zT 1 from ((25, 63, bg_203), (0, 256, zun 40 256 4294967296)), (2, (0, 0)))
noncomputable def h1_X9_rankOf_10 : zH 1 := (show zT 1 from ((25, 63, bg_203), (0, 256, zun 40 256 4294967296)), (2, (0, 0)))
theorem ev_X9_rankOf_10 : f_X9_rankOfa [zR 1, zI 3] h0_X9_rankOf_10 (zrk (zI 4294967300) h1_X9_rankOf_10) = true := by decide +kernel
noncomputable def g_X9_rankOf_10 {d : Nat} : List zV → zH d → zP d → Bool := zsmy [(0, 0), (1, 34)] [zR 1, zI 3] h0_X9_rankOf_10 (zI 4294967300) h1_X9_rankOf_10
theorem mg_X9_rankOf_10 {d : Nat} : zMet (d := d) X_X9_rankOf yX9_rankOf 2 g_X9_rankOf_10 := zMet_sm m_X9_rankOfa ev_X9_rankOf_10
noncomputable def h0_X9_rankOf_11 : zH 1 := (show zT 1 from ((25, 63, bg_204), (0, 256, zun 40 256 4294967296)), (2, (0, 0)))
noncomputable def h1_X9_rankOf_11 : zH 1 := (show zT 1 from ((25, 63, bg_204), (0, 256, zun 40 256 4294967296)), (2, (0, 0)))
theorem ev_X9_rankOf_11 : f_X9_rankOfa [zR 1, zI 3] h0_X9_rankOf_11 (zrk (zI 4294967300) h1_X9_rankOf_11) = true := by decide +kernel
noncomputable def g_X9_rankOf_11 {d : Nat} : List zV → zH d → zP d → Bool := zsmy [(0, 0), (1, 34)] [zR 1, zI 3] h0_X9_rankOf_11 (zI 4294967300) h1_X9_rankOf_11
theorem mg_X9_rankOf_11 {d : Nat} : zMet (d := d) X_X9_rankOf yX9_rankOf 2 g_X9_rankOf_11 := zMet_sm m_X9_rankOfa ev_X9_rankOf_11
noncomputable def h0_X9_rankOf_12 : zH 1 := (show zT 1 from ((25, 63, bg_201), (0, 256, zun 40 256 4294967296)), (2, (0, 0)))
noncomputable def h1_X9_rankOf_12 : zH 1 := (show zT 1 from ((25, 63, bg_201), (0, 256, zun 40 256 4294967296)), (2, (0, 0)))
theorem ev_X9_rankOf_12 : f_X9_rankOfa [zR 1, zI 4] h0_X9_rankOf_12 (zrk (zI 4294967301) h1_X9_rankOf_12) = true := by decide +kernel
noncomputable def g_X9_rankOf_12 {d : Nat} : List zV → zH d → zP d → Bool := zsmy [(0, 0), (1, 34)] [zR 1, zI 4] h0_X9_rankOf_12 (zI 4294967301) h1_X9_rankOf_12
theorem mg_X9_rankOf_12 {d : Nat} : zMet (d := d) X_X9_rankOf yX9_rankOf 2 g_X9_rankOf_12 := zMet_sm m_X9_rankOfa ev_X9_rankOf_12
noncomputable def h0_X9_rankOf_13 : zH 1 := (show zT 1 from ((25, 63, bg_201), (0, 256, zun 40 256 4294967296)), (2, (0, 0)))
noncomputable def h1_X9_rankOf_13 : zH 1 := (show zT 1 from ((25, 63, bg_201), (0, 256, zun 40 256 4294967296)), (2, (0, 0)))
theorem ev_X9_rankOf_13 : f_X9_rankOfa [zR 1, zI 5] h0_X9_rankOf_13 (zrk (zI 4294967302) h1_X9_rankOf_13) = true := by decide +kernel
noncomputable def g_X9_rankOf_13 {d : Nat} : List zV → zH d → zP d → Bool := zsmy [(0, 0), (1, 34)] [zR 1, zI 5] h0_X9_rankOf_13 (zI 4294967302) h1_X9_rankOf_13
theorem mg_X9_rankOf_13 {d : Nat} : zMet (d := d) X_X9_rankOf yX9_rankOf 2 g_X9_rankOf_13 := zMet_sm m_X9_rankOfa ev_X9_rankOf_13
noncomputable def h0_X9_rankOf_14 : zH 1 := (show zT 1 from ((25, 63, bg_201), (0, 256, zun 40 256 4294967296)), (2, (0, 0)))
noncomputable def h1_X9_rankOf_14 : zH 1 := (show zT 1 from ((25, 63, bg_201), (0, 256, zun 40 256 4294967296)), (2, (0, 0)))
theorem ev_X9_rankOf_14 : f_X9_rankOfa [zR 1, zI 6] h0_X9_rankOf_14 (zrk (zI 4294967303) h1_X9_rankOf_14) = true := by decide +kernel
noncomputable def g_X9_rankOf_14 {d : Nat} : List zV → zH d → zP d → Bool := zsmy [(0, 0), (1, 34)] [zR 1, zI 6] h0_X9_rankOf_14 (zI 4294967303) h1_X9_rankOf_14
theorem mg_X9_rankOf_14 {d : Nat} : zMet (d := d) X_X9_rankOf yX9_rankOf 2 g_X9_rankOf_14 := zMet_sm m_X9_rankOfa ev_X9_rankOf_14
noncomputable def h0_X9_rankOf_15 : zH 1 := (show zT 1 from ((25, 63, bg_202), (0, 256, zun 40 256 4294967296)), (2, (0, 0)))
noncomputable def h1_X9_rankOf_15 : zH 1 := (show zT 1 from ((25, 63, bg_202), (0, 256, zun 40 256 4294967296)), (2, (0, 0)))
theorem ev_X9_rankOf_15 : f_X9_rankOfa [zR 1, zI 4] h0_X9_rankOf_15 (zrk (zI 4294967301) h1_X9_rankOf_15) = true := by decide +kernel
noncomputable def g_X9_rankOf_15 {d : Nat} : List zV → zH d → zP d → Bool := zsmy [(0, 0), (1, 34)] [zR 1, zI 4] h0_X9_rankOf_15 (zI 4294967301) h1_X9_rankOf_15
theorem mg_X9_rankOf_15 {d : Nat} : zMet (d := d) X_X9_rankOf yX9_rankOf 2 g_X9_rankOf_15 := zMet_sm m_X9_rankOfa ev_X9_rankOf_15
noncomputable def h0_X9_rankOf_16 : zH 1 := (show zT 1 from ((25, 63, bg_202), (0, 256, zun 40 256 4294967296)), (2, (0, 0)))
noncomputable def h1_X9_rankOf_16 : zH 1 := (show zT 1 from ((25, 63, bg_202), (0, 256, zun 40 256 4294967296)), (2, (0, 0)))
theorem ev_X9_rankOf_16 : f_X9_rankOfa [zR 1, zI 5] h0_X9_rankOf_16 (zrk (zI 4294967302) h1_X9_rankOf_16) = true := by decide +kernel
noncomputable def g_X9_rankOf_16 {d : Nat} : List zV → zH d → zP d → Bool := zsmy [(0, 0), (1, 34)] [zR 1, zI 5] h0_X9_rankOf_16 (zI 4294967302) h1_X9_rankOf_16
theorem mg_X9_rankOf_16 {d : Nat} : zMet (d := d) X_X9_rankOf yX9_rankOf 2 g_X9_rankOf_16 := zMet_sm m_X9_rankOfa ev_X9_rankOf_16
noncomputable def h0_X9_rankOf_17 : zH 1 := (show zT 1 from ((25, 63, bg_202), (0, 256, zun 40 256 4294967296)), (2, (0, 0)))
noncomputable def h1_X9_rankOf_17 : zH 1 := (show zT 1 from ((25, 63, bg_202), (0, 256, zun 40 256 4294967296)), (2, (0, 0)))
theorem ev_X9_rankOf_17 : f_X9_rankOfa [zR 1, zI 6] h0_X9_rankOf_17 (zrk (zI 4294967303) h1_X9_rankOf_17) = true := by decide +kernel
noncomputable def g_X9_rankOf_17 {d : Nat} : List zV → zH d → zP d → Bool := zsmy [(0, 0), (1, 34)] [zR 1, zI 6] h0_X9_rankOf_17 (zI 4294967303) h1_X9_rankOf_17
theorem mg_X9_rankOf_17 {d : Nat} : zMet (d := d) X_X9_rankOf yX9_rankOf 2 g_X9_rankOf_17 := zMet_sm m_X9_rankOfa ev_X9_rankOf_17
noncomputable def h0_X9_rankOf_18 : zH 1 := (show zT 1 from ((25, 63, bg_203), (0, 256, zun 40 256 4294967296)), (2, (0, 0)))
noncomputable def h1_X9_rankOf_18 : zH 1 := (show zT 1 from ((25, 63, bg_203), (0, 256, zun 40 256 4294967296)), (2, (0, 0)))
theorem ev_X9_rankOf_18 : f_X9_rankOfa [zR 1, zI 4] h0_X9_rankOf_18 (zrk (zI 4294967301) h1_X9_rankOf_18) = true := by decide +kernel
noncomputable def g_X9_rankOf_18 {d : Nat} : List zV → zH d → zP d → Bool := zsmy [(0, 0), (1, 34)] [zR 1, zI 4] h0_X9_rankOf_18 (zI 4294967301) h1_X9_rankOf_18
theorem mg_X9_rankOf_18 {d : Nat} : zMet (d := d) X_X9_rankOf yX9_rankOf 2 g_X9_rankOf_18 := zMet_sm m_X9_rankOfa ev_X9_rankOf_18
noncomputable def h0_X9_rankOf_19 : zH 1 := (show zT 1 from ((25, 63, bg_203), (0, 256, zun 40 256 4294967296)), (2, (0, 0)))
noncomputable def h1_X9_rankOf_19 : zH 1 := (show zT 1 from ((25, 63, bg_203), (0, 256, zun 40 256 4294967296)), (2, (0, 0)))
theorem ev_X9_rankOf_19 : f_X9_rankOfa [zR 1, zI 5] h0_X9_rankOf_19 (zrk (zI 4294967302) h1_X9_rankOf_19) = true := by decide +kernel
noncomputable def g_X9_rankOf_19 {d : Nat} : List zV → zH d → zP d → Bool := zsmy [(0, 0), (1, 34)] [zR 1, zI 5] h0_X9_rankOf_19 (zI 4294967302) h1_X9_rankOf_19
theorem mg_X9_rankOf_19 {d : Nat} : zMet (d := d) X_X9_rankOf yX9_rankOf 2 g_X9_rankOf_19 := zMet_sm m_X9_rankOfa ev_X9_rankOf_19
noncomputable def h0_X9_rankOf_20 : zH 1 := (show zT 1 from ((25, 63, bg_203), (0, 256, zun 40 256 4294967296)), (2, (0, 0)))
noncomputable def h1_X9_rankOf_20 : zH 1 := (show zT 1 from ((25, 63, bg_203), (0, 256, zun 40 256 4294967296)), (2, (0, 0)))
theorem ev_X9_rankOf_20 : f_X9_rankOfa [zR 1, zI 6] h0_X9_rankOf_20 (zrk (zI 4294967303) h1_X9_rankOf_20) = true := by decide +kernel
noncomputable def g_X9_rankOf_20 {d : Nat} : List zV → zH d → zP d → Bool := zsmy [(0, 0), (1, 34)] [zR 1, zI 6] h0_X9_rankOf_20 (zI 4294967303) h1_X9_rankOf_20
theorem mg_X9_rankOf_20 {d : Nat} : zMet (d := d) X_X9_rankOf yX9_rankOf 2 g_X9_rankOf_20 := zMet_sm m_X9_rankOfa ev_X9_rankOf_20
noncomputable def h0_X9_rankOf_21 : zH 1 := (show zT 1 from ((25, 63, bg_204), (0, 256, zun 40 256 4294967296)), (2, (0, 0)))
noncomputable def h1_X9_rankOf_21 : zH 1 := (show zT 1 from ((25, 63, bg_204), (0, 256, zun 40 256 4294967296)), (2, (0, 0)))
theorem ev_X9_rankOf_21 : f_X9_rankOfa [zR 1, zI 4] h0_X9_rankOf_21 (zrk (zI 4294967301) h1_X9_rankOf_21) = true := by decide +kernel
noncomputable def g_X9_rankOf_21 {d : Nat} : List zV → zH d → zP d → Bool := zsmy [(0, 0), (1, 34)] [zR 1, zI 4] h0_X9_rankOf_21 (zI 4294967301) h1_X9_rankOf_21
theorem mg_X9_rankOf_21 {d : Nat} : zMet (d := d) X_X9_rankOf yX9_rankOf 2 g_X9_rankOf_21 := zMet_sm m_X9_rankOfa ev_X9_rankOf_21
noncomputable def h0_X9_rankOf_22 : zH 1 := (show zT 1 from ((25, 63, bg_204), (0, 256, zun 40 256 4294967296)), (2, (0, 0)))
noncomputable def h1_X9_rankOf_22 : zH 1 := (show zT 1 from ((25, 63, bg_204), (0, 256, zun 40 256 4294967296)), (2, (0, 0)))
theorem ev_X9_rankOf_22 : f_X9_rankOfa [zR 1, zI 5] h0_X9_rankOf_22 (zrk (zI 4294967302) h1_X9_rankOf_22) = true := by decide +kernel
noncomputable def g_X9_rankOf_22 {d : Nat} : List zV → zH d → zP d → Bool := zsmy [(0, 0), (1, 34)] [zR 1, zI 5] h0_X9_rankOf_22 (zI 4294967302) h1_X9_rankOf_22
theorem mg_X9_rankOf_22 {d : Nat} : zMet (d := d) X_X9_rankOf yX9_rankOf 2 g_X9_rankOf_22 := zMet_sm m_X9_rankOfa ev_X9_rankOf_22
noncomputable def h0_X9_rankOf_23 : zH 1 := (show zT 1 from ((25, 63, bg_204), (0, 256, zun 40 256 4294967296)), (2, (0, 0)))
noncomputable def h1_X9_rankOf_23 : zH 1 := (show zT 1 from ((25, 63, bg_204), (0, 256, zun 40 256 4294967296)), (2, (0, 0)))
theorem ev_X9_rankOf_23 : f_X9_rankOfa [zR 1, zI 6] h0_X9_rankOf_23 (zrk (zI 4294967303) h1_X9_rankOf_23) = true := by decide +kernel
noncomputable def g_X9_rankOf_23 {d : Nat} : List zV → zH d → zP d → Bool := zsmy [(0, 0), (1, 34)] [zR 1, zI 6] h0_X9_rankOf_23 (zI 4294967303) h1_X9_rankOf_23
theorem mg_X9_rankOf_23 {d : Nat} : zMet (d := d) X_X9_rankOf yX9_rankOf 2 g_X9_rankOf_23 := zMet_sm m_X9_rankOfa ev_X9_rankOf_23
noncomputable def h0_X9_rankOf_24 : zH 1 := (show zT 1 from ((25, 63, bg_201), (0, 256, zun 40 256 4294967296)), (2, (0, 0)))
noncomputable def h1_X9_rankOf_24 : zH 1 := (show zT 1 from ((25, 63, bg_201), (0, 256, zun 40 256 4294967296)), (2, (0, 0)))
theorem ev_X9_rankOf_24 : f_X9_rankOfa [zR 1, zI 9] h0_X9_rankOf_24 (zrk (zI 4294967306) h1_X9_rankOf_24) = true := by decide +kernel
noncomputable def g_X9_rankOf_24 {d : Nat} : List zV → zH d → zP d → Bool := zsmy [(0, 0), (1, 34)] [zR 1, zI 9] h0_X9_rankOf_24 (zI 4294967306) h1_X9_rankOf_24
theorem mg_X9_rankOf_24 {d : Nat} : zMet (d := d) X_X9_rankOf yX9_rankOf 2 g_X9_rankOf_24 := zMet_sm m_X9_rankOfa ev_X9_rankOf_24
noncomputable def h0_X9_rankOf_25 : zH 1 := (show zT 1 from ((25, 63, bg_201), (0, 256, zun 40 256 4294967296)), (2, (0, 0)))
noncomputable def h1_X9_rankOf_25 : zH 1 := (show zT 1 from ((25, 63, bg_201), (0, 256, zun 40 256 4294967296)), (2, (0, 0)))
theorem ev_X9_rankOf_25 : f_X9_rankOfa [zR 1, zI 10] h0_X9_rankOf_25 (zrk (zI 4294967307) h1_X9_rankOf_25) = true := by decide +kernel
noncomputable def g_X9_rankOf_25 {d : Nat} : List zV → zH d → zP d → Bool := zsmy [(0, 0), (1, 34)] [zR 1, zI 10] h0_X9_rankOf_25 (zI 4294967307) h1_X9_rankOf_25
theorem mg_X9_rankOf_25 {d : Nat} : zMet (d := d) X_X9_rankOf yX9_rankOf 2 g_X9_rankOf_25 := zMet_sm m_X9_rankOfa ev_X9_rankOf_25
noncomputable def h0_X9_rankOf_26 : zH 1 := (show zT 1 from ((25, 63, bg_201), (0, 256, zun 40 256 4294967296)), (2, (0, 0)))
noncomputable def h1_X9_rankOf_26 : zH 1 := (show zT 1 from ((25, 63, bg_201), (0, 256, zun 40 256 4294967296)), (2, (0, 0)))
theorem ev_X9_rankOf_26 : f_X9_rankOfa [zR 1, zI 16] h0_X9_rankOf_26 (zrk (zI 4294967313) h1_X9_rankOf_26) = true := by decide +kernel
noncomputable def g_X9_rankOf_26 {d : Nat} : List zV → zH d → zP d → Bool := zsmy [(0, 0), (1, 34)] [zR 1, zI 16] h0_X9_rankOf_26 (zI 4294967313) h1_X9_rankOf_26
theorem mg_X9_rankOf_26 {d : Nat} : zMet (d := d) X_X9_rankOf yX9_rankOf 2 g_X9_rankOf_26 := zMet_sm m_X9_rankOfa ev_X9_rankOf_26
noncomputable def h0_X9_rankOf_27 : zH 1 := (show zT 1 from ((25, 63, bg_202), (0, 256, zun 40 256 4294967296)), (2, (0, 0)))
noncomputable def h1_X9_rankOf_27 : zH 1 := (show zT 1 from ((25, 63, bg_202), (0, 256, zun 40 256 4294967296)), (2, (0, 0)))
theorem ev_X9_rankOf_27 : f_X9_rankOfa [zR 1, zI 9] h0_X9_rankOf_27 (zrk (zI 4294967306) h1_X9_rankOf_27) = true := by decide +kernel
noncomputable def g_X9_rankOf_27 {d : Nat} : List zV → zH d → zP d → Bool := zsmy [(0, 0), (1, 34)] [zR 1, zI 9] h0_X9_rankOf_27 (zI 4294967306) h1_X9_rankOf_27
theorem mg_X9_rankOf_27 {d : Nat} : zMet (d := d) X_X9_rankOf yX9_rankOf 2 g_X9_rankOf_27 := zMet_sm m_X9_rankOfa ev_X9_rankOf_27
noncomputable def h0_X9_rankOf_28 : zH 1 := (show zT 1 from ((25, 63, bg_202), (0, 256, zun 40 256 4294967296)), (2, (0, 0)))
noncomputable def h1_X9_rankOf_28 : zH 1 := (show zT 1 from ((25, 63, bg_202), (0, 256, zun 40 256 4294967296)), (2, (0, 0)))
theorem ev_X9_rankOf_28 : f_X9_rankOfa [zR 1, zI 10] h0_X9_rankOf_28 (zrk (zI 4294967307) h1_X9_rankOf_28) = true := by decide +kernel
noncomputable def g_X9_rankOf_28 {d : Nat} : List zV → zH d → zP d → Bool := zsmy [(0, 0), (1, 34)] [zR 1, zI 10] h0_X9_rankOf_28 (zI 4294967307) h1_X9_rankOf_28
theorem mg_X9_rankOf_28 {d : Nat} : zMet (d := d) X_X9_rankOf yX9_rankOf 2 g_X9_rankOf_28 := zMet_sm m_X9_rankOfa ev_X9_rankOf_28
noncomputable def h0_X9_rankOf_29 : zH 1 := (show zT 1 from ((25, 63, bg_202), (0, 256, zun 40 256 4294967296)), (2, (0, 0)))
noncomputable def h1_X9_rankOf_29 : zH 1 := (show zT 1 from ((25, 63, bg_202), (0, 256, zun 40 256 4294967296)), (2, (0, 0)))
theorem ev_X9_rankOf_29 : f_X9_rankOfa [zR 1, zI 16] h0_X9_rankOf_29 (zrk (zI 4294967313) h1_X9_rankOf_29) = true := by decide +kernel
noncomputable def g_X9_rankOf_29 {d : Nat} : List zV → zH d → zP d → Bool := zsmy [(0, 0), (1, 34)] [zR 1, zI 16] h0_X9_rankOf_29 (zI 4294967313) h1_X9_rankOf_29
theorem mg_X9_rankOf_29 {d : Nat} : zMet (d := d) X_X9_rankOf yX9_rankOf 2 g_X9_rankOf_29 := zMet_sm m_X9_rankOfa ev_X9_rankOf_29
noncomputable def h0_X9_rankOf_30 : zH 1 := (show zT 1 from ((25, 63, bg_203), (0, 256, zun 40 256 4294967296)), (2, (0, 0)))
noncomputable def h1_X9_rankOf_30 : zH 1 := (show zT 1 from ((25, 63, bg_203), (0, 256, zun 40 256 4294967296)), (2, (0, 0)))
theorem ev_X9_rankOf_30 : f_X9_rankOfa [zR 1, zI 9] h0_X9_rankOf_30 (zrk (zI 4294967306) h1_X9_rankOf_30) = true := by decide +kernel
noncomputable def g_X9_rankOf_30 {d : Nat} : List zV → zH d → zP d → Bool := zsmy [(0, 0), (1, 34)] [zR 1, zI 9] h0_X9_rankOf_30 (zI 4294967306) h1_X9_rankOf_30
theorem mg_X9_rankOf_30 {d : Nat} : zMet (d := d) X_X9_rankOf yX9_rankOf 2 g_X9_rankOf_30 := zMet_sm m_X9_rankOfa ev_X9_rankOf_30
noncomputable def h0_X9_rankOf_31 : zH 1 := (show zT 1 from ((25, 63, bg_203), (0, 256, zun 40 256 4294967296)), (2, (0, 0)))
noncomputable def h1_X9_rankOf_31 : zH 1 := (show zT 1 from ((25, 63, bg_203), (0, 256, zun 40 256 4294967296)), (2, (0, 0)))
theorem ev_X9_rankOf_31 : f_X9_rankOfa [zR 1, zI 10] h0_X9_rankOf_31 (zrk (zI 4294967307) h1_X9_rankOf_31) = true := by decide +kernel
noncomputable def g_X9_rankOf_31 {d : Nat} : List zV → zH d → zP d → Bool := zsmy [(0, 0), (1, 34)] [zR 1, zI 10] h0_X9_rankOf_31 (zI 4294967307) h1_X9_rankOf_31
theorem mg_X9_rankOf_31 {d : Nat} : zMet (d := d) X_X9_rankOf yX9_rankOf 2 g_X9_rankOf_31 := zMet_sm m_X9_rankOfa ev_X9_rankOf_31
noncomputable def h0_X9_rankOf_32 : zH 1 := (show zT 1 from ((25, 63, bg_203), (0, 256, zun 40 256 4294967296)), (2, (0, 0)))
noncomputable def h1_X9_rankOf_32 : zH 1 := (show zT 1 from ((25, 63, bg_203), (0, 256, zun 40 256 4294967296)), (2, (0, 0)))
theorem ev_X9_rankOf_32 : f_X9_rankOfa [zR 1, zI 16] h0_X9_rankOf_32 (zrk (zI 4294967313) h1_X9_rankOf_32) = true := by decide +kernel
noncomputable def g_X9_rankOf_32 {d : Nat} : List zV → zH d → zP d → Bool := zsmy [(0, 0), (1, 34)] [zR 1, zI 16] h0_X9_rankOf_32 (zI 4294967313) h1_X9_rankOf_32
theorem mg_X9_rankOf_32 {d : Nat} : zMet (d := d) X_X9_rankOf yX9_rankOf 2 g_X9_rankOf_32 := zMet_sm m_X9_rankOfa ev_X9_rankOf_32
noncomputable def h0_X9_rankOf_33 : zH 1 := (show zT 1 from ((25, 63, bg_204), (0, 256, zun 40 256 4294967296)), (2, (0, 0)))
noncomputable def h1_X9_rankOf_33 : zH 1 := (show zT 1 from ((25, 63, bg_204), (0, 256, zun 40 256 4294967296)), (2, (0, 0)))
theorem ev_X9_rankOf_33 : f_X9_rankOfa [zR 1, zI 9] h0_X9_rankOf_33 (zrk (zI 4294967306) h1_X9_rankOf_33) = true := by decide +kernel
noncomputable def g_X9_rankOf_33 {d : Nat} : List zV → zH d → zP d → Bool := zsmy [(0, 0), (1, 34)] [zR 1, zI 9] h0_X9_rankOf_33 (zI 4294967306) h1_X9_rankOf_33
theorem mg_X9_rankOf_33 {d : Nat} : zMet (d := d) X_X9_rankOf yX9_rankOf 2 g_X9_rankOf_33 := zMet_sm m_X9_rankOfa ev_X9_rankOf_33
noncomputable def h0_X9_rankOf_34 : zH 1 := (show zT 1 from ((25, 63, bg_204), (0, 256, zun 40 256 4294967296)), (2, (0, 0)))
noncomputable def h1_X9_rankOf_34 : zH 1 := (show zT 1 from ((25, 63, bg_204), (0, 256, zun 40 256 4294967296)), (2, (0, 0)))
theorem ev_X9_rankOf_34 : f_X9_rankOfa [zR 1, zI 10] h0_X9_rankOf_34 (zrk (zI 4294967307) h1_X9_rankOf_34) = true := by decide +kernel
noncomputable def g_X9_rankOf_34 {d : Nat} : List zV → zH d → zP d → Bool := zsmy [(0, 0), (1, 34)] [zR 1, zI 10] h0_X9_rankOf_34 (zI 4294967307) h1_X9_rankOf_34
theorem mg_X9_rankOf_34 {d : Nat} : zMet (d := d) X_X9_rankOf yX9_rankOf 2 g_X9_rankOf_34 := zMet_sm m_X9_rankOfa ev_X9_rankOf_34
noncomputable def h0_X9_rankOf_35 : zH 1 := (show zT 1 from ((25, 63, bg_204), (0, 256, zun 40 256 4294967296)), (2, (0, 0)))
noncomputable def h1_X9_rankOf_35 : zH 1 := (show zT 1 from ((25, 63, bg_204), (0, 256, zun 40 256 4294967296)), (2, (0, 0)))
theorem ev_X9_rankOf_35 : f_X9_rankOfa [zR 1, zI 16] h0_X9_rankOf_35 (zrk (zI 4294967313) h1_X9_rankOf_35) = true := by decide +kernel
noncomputable def g_X9_rankOf_35 {d : Nat} : List zV → zH d → zP d → Bool := zsmy [(0, 0), (1, 34)] [zR 1, zI 16] h0_X9_rankOf_35 (zI 4294967313) h1_X9_rankOf_35
theorem mg_X9_rankOf_35 {d : Nat} : zMet (d := d) X_X9_rankOf yX9_rankOf 2 g_X9_rankOf_35 := zMet_sm m_X9_rankOfa ev_X9_rankOf_35
set_option maxRecDepth 100000 in
noncomputable def gs_X9_rankOf {d : Nat} : List zV → zH d → zP d → Bool := zwt (hsK (hsF 0 [] 1) (hsL 1)) [(3074, g_X9_rankOf_0), (4098, g_X9_rankOf_1), (6146, g_X9_rankOf_2), (8194, g_X9_rankOf_3), (3075, g_X9_rankOf_4), (4099, g_X9_rankOf_5), (6147, g_X9_rankOf_6), (8195, g_X9_rankOf_7), (3076, g_X9_rankOf_8), (4100, g_X9_rankOf_9), (6148, g_X9_rankOf_10), (8196, g_X9_rankOf_11), (3077, g_X9_rankOf_12), (3078, g_X9_rankOf_13), (3079, g_X9_rankOf_14), (4101, g_X9_rankOf_15), (4102, g_X9_rankOf_16), (4103, g_X9_rankOf_17), (6149, g_X9_rankOf_18), (6150, g_X9_rankOf_19), (6151, g_X9_rankOf_20), (8197, g_X9_rankOf_21), (8198, g_X9_rankOf_22), (8199, g_X9_rankOf_23), (3082, g_X9_rankOf_24), (3083, g_X9_rankOf_25), (3089, g_X9_rankOf_26), (4106, g_X9_rankOf_27), (4107, g_X9_rankOf_28), (4113, g_X9_rankOf_29), (6154, g_X9_rankOf_30), (6155, g_X9_rankOf_31), (6161, g_X9_rankOf_32), (8202, g_X9_rankOf_33), (8203, g_X9_rankOf_34), (8209, g_X9_rankOf_35)]
set_option maxRecDepth 100000 in
theorem mgs_X9_rankOf {d : Nat} : zMet (d := d) X_X9_rankOf yX9_rankOf 2 gs_X9_rankOf := zMet_wt (hsK_ok hsF_ok hsL_ok) (zwt_c mg_X9_rankOf_0 (zwt_c mg_X9_rankOf_1 (zwt_c mg_X9_rankOf_2 (zwt_c mg_X9_rankOf_3 (zwt_c mg_X9_rankOf_4 (zwt_c mg_X9_rankOf_5 (zwt_c mg_X9_rankOf_6 (zwt_c mg_X9_rankOf_7 (zwt_c mg_X9_rankOf_8 (zwt_c mg_X9_rankOf_9 (zwt_c mg_X9_rankOf_10 (zwt_c mg_X9_rankOf_11 (zwt_c mg_X9_rankOf_12 (zwt_c mg_X9_rankOf_13 (zwt_c mg_X9_rankOf_14 (zwt_c mg_X9_rankOf_15 (zwt_c mg_X9_rankOf_16 (zwt_c mg_X9_rankOf_17 (zwt_c mg_X9_rankOf_18 (zwt_c mg_X9_rankOf_19 (zwt_c mg_X9_rankOf_20 (zwt_c mg_X9_rankOf_21 (zwt_c mg_X9_rankOf_22 (zwt_c mg_X9_rankOf_23 (zwt_c mg_X9_rankOf_24 (zwt_c mg_X9_rankOf_25 (zwt_c mg_X9_rankOf_26 (zwt_c mg_X9_rankOf_27 (zwt_c mg_X9_rankOf_28 (zwt_c mg_X9_rankOf_29 (zwt_c mg_X9_rankOf_30 (zwt_c mg_X9_rankOf_31 (zwt_c mg_X9_rankOf_32 (zwt_c mg_X9_rankOf_33 (zwt_c mg_X9_rankOf_34 (zwt_c mg_X9_rankOf_35 zwt_n))))))))))))))))))))))))))))))))))))
