/-! the reference, by program -/
abbrev X_X9_membersOf : zM := (RX9, cX9_membersOf, 4, (some .int), "membersOf")
noncomputable def bX9_membersOf_44 {d : Nat} (P : zP d) (r4 : zK d) : zK d := (xinc 3 1 r4)
set_option maxRecDepth 100000 in
set_option maxHeartbeats 4000000 in
theorem sbX9_membersOf_44 {d : Nat} [zGh] (P : zP d) (r4 : zK d) (hr4 : zSim X_X9_membersOf 1 P 4 r4) : zSim X_X9_membersOf 1 P 44 (bX9_membersOf_44 P r4) := by
  unfold bX9_membersOf_44
  refine sm_iinc (pc := 44) (n := 3) dX9_membersOf_44 zc_i_1 ?_
  refine sm_goto (pc := 47) (tgt := 4) dX9_membersOf_47 (by decide) ?_
  exact hr4
noncomputable def lX9_membersOf_4 {d : Nat} (P : zP d) (r4 : zK d) : zK d := (xild 3 (xald 0 (xgfI 25 2 (xcmp tge (xild 2 (xiret P)) (xald 0 (xgfR 25 17 (xild 3 (xald1 0 (xild 1 (xjoin (bX9_membersOf_44 P r4) (fun j44 => (xcmp Nat.beq (xald 0 (xgfR 25 7 (xild 3 (xald1 1 (xif0 t0eq j44 (xald 0 (xgfR 25 42 (xild 2 (xild 3 (xast1 0 (fun v => v) (xinc 2 1 j44))))))))))) j44))))))))))))
set_option maxRecDepth 100000 in
set_option maxHeartbeats 4000000 in
theorem slX9_membersOf_4 {d : Nat} [zGh] (P : zP d) (r4 : zK d) (hr4 : zSim X_X9_membersOf 1 P 4 r4) : zSim X_X9_membersOf 1 P 4 (lX9_membersOf_4 P r4) := by
  unfold lX9_membersOf_4
  refine sm_iload_n (pc := 4) (n := 3) dX9_membersOf_4 rfl ?_
  refine sm_aload_n (pc := 5) (n := 0) dX9_membersOf_5 rfl ?_
  refine gf_X9_153 (pc := 6) rfl dX9_membersOf_6 ?_
  refine sm_icmp_ge (pc := 9) (tgt := 50) dX9_membersOf_9 (by decide) ?_ ?_
  · skip
    refine sm_iload_n (pc := 50) (n := 2) dX9_membersOf_50 rfl ?_
    exact sm_ireturn (pc := 51) dX9_membersOf_51 rfl
  · skip
    refine sm_aload_n (pc := 12) (n := 0) dX9_membersOf_12 rfl ?_
    refine gf_X9_47 (pc := 13) rfl dX9_membersOf_13 ?_
    refine sm_iload_n (pc := 16) (n := 3) dX9_membersOf_16 rfl ?_
    refine sm_iaload (pc := 17) dX9_membersOf_17 ?_
    refine sm_iload_n (pc := 18) (n := 1) dX9_membersOf_18 rfl ?_
    refine sm_join (pc := 19) (pc' := 44) (sbX9_membersOf_44 P r4 hr4) (fun j44 hj44 => ?_)
    refine sm_icmp_ne (pc := 19) (tgt := 44) dX9_membersOf_19 (by decide) ?_ ?_
    · skip
      exact hj44
    · skip
      refine sm_aload_n (pc := 22) (n := 0) dX9_membersOf_22 rfl ?_
      refine gf_X9_22 (pc := 23) rfl dX9_membersOf_23 ?_
      refine sm_iload_n (pc := 26) (n := 3) dX9_membersOf_26 rfl ?_
      refine sm_baload (pc := 27) dX9_membersOf_27 ?_
      refine sm_if_ne (pc := 28) (tgt := 34) dX9_membersOf_28 (by decide) ?_ ?_
      · skip
        refine sm_aload_n (pc := 34) (n := 0) dX9_membersOf_34 rfl ?_
        refine gf_X9_112 (pc := 35) rfl dX9_membersOf_35 ?_
        refine sm_iload_n (pc := 38) (n := 2) dX9_membersOf_38 rfl ?_
        refine sm_iload_n (pc := 39) (n := 3) dX9_membersOf_39 rfl ?_
        refine sm_iastore (pc := 40) dX9_membersOf_40 ?_
        refine sm_iinc (pc := 41) (n := 2) dX9_membersOf_41 zc_i_1 ?_
        exact hj44
      · skip
        refine sm_goto (pc := 31) (tgt := 44) dX9_membersOf_31 (by decide) ?_
        exact hj44
noncomputable def b_X9_membersOf {d : Nat} (P : zP d) : zK d := (xpI 0 (xist 2 (xpI 0 (xist 3 (xloop (fun r4 => (lX9_membersOf_4 P r4)) 100000)))))
set_option maxRecDepth 100000 in
set_option maxHeartbeats 4000000 in
theorem s_X9_membersOf {d : Nat} [zGh] (P : zP d) : zSim X_X9_membersOf 1 P 0 (b_X9_membersOf P) := by
  unfold b_X9_membersOf
  refine sm_iconst (pc := 0) dX9_membersOf_0 zc_i_0 ?_
  refine sm_istore_n (pc := 1) (n := 2) dX9_membersOf_1 rfl ?_
  refine sm_iconst (pc := 2) dX9_membersOf_2 zc_i_0 ?_
  refine sm_istore_n (pc := 3) (n := 3) dX9_membersOf_3 rfl ?_
  exact sm_loop (fun r4 hr4 => slX9_membersOf_4 P r4 hr4) _
noncomputable def f_X9_membersOf {d : Nat} : List zV → zH d → zP d → Bool := zfn 4 b_X9_membersOf
theorem m_X9_membersOf {d : Nat} : zMet (d := d) X_X9_membersOf yX9_membersOf 1 f_X9_membersOf := zmet_mk (X := X_X9_membersOf) (by decide) rfl rfl s_X9_membersOf

abbrev X_X9_determinant : zM := (RX9, cX9_determinant, 10, (some .long), "determinant")
noncomputable def bX9_determinant_301 {d : Nat} (P : zP d) : zK d := (xlret P)
set_option maxRecDepth 100000 in
set_option maxHeartbeats 4000000 in
theorem sbX9_determinant_301 {d : Nat} [zGh] (P : zP d) : zSim X_X9_determinant 1 P 301 (bX9_determinant_301 P) := by
  unfold bX9_determinant_301
  exact sm_lreturn (pc := 301) dX9_determinant_301 rfl
noncomputable def cX9_determinant_242 {d : Nat} (P : zP d) (r166 : zK d) : zK d := (xinc 8 1 r166)
set_option maxRecDepth 100000 in
set_option maxHeartbeats 4000000 in
theorem scX9_determinant_242 {d : Nat} [zGh] (P : zP d) (r166 : zK d) (hr166 : zSim X_X9_determinant 1 P 166 r166) : zSim X_X9_determinant 1 P 242 (cX9_determinant_242 P r166) := by
  unfold cX9_determinant_242
  refine sm_iinc (pc := 242) (n := 8) dX9_determinant_242 zc_i_1 ?_
  refine sm_goto (pc := 245) (tgt := 166) dX9_determinant_245 (by decide) ?_
  exact hr166
noncomputable def cX9_determinant_208 {d : Nat} (P : zP d) (r166 : zK d) : zK d := (xbin zadd (xlal (xbinj zmulj (xald 0 (xgfR 25 41 (xpI 11 (xild 7 (xbin zmul (xild 5 (xbin zadd (xlal (xald 0 (xgfR 25 41 (xpI 11 (xild 5 (xbin zmul (xild 8 (xbin zadd (xlal (xbinj zmulj (xbinj zsubj (xlld 2 (xbinjN zdivj (xlas (cX9_determinant_242 P r166)))))))))))))))))))))))))
set_option maxRecDepth 100000 in
set_option maxHeartbeats 4000000 in
theorem scX9_determinant_208 {d : Nat} [zGh] (P : zP d) (r166 : zK d) (hr166 : zSim X_X9_determinant 1 P 166 r166) : zSim X_X9_determinant 1 P 208 (cX9_determinant_208 P r166) := by
  unfold cX9_determinant_208
  refine sm_iadd (pc := 208) dX9_determinant_208 ?_
  refine sm_laload (pc := 209) dX9_determinant_209 ?_
  refine sm_lmul (pc := 210) dX9_determinant_210 ?_
  refine sm_aload_n (pc := 211) (n := 0) dX9_determinant_211 rfl ?_
  refine gf_X9_108 (pc := 212) rfl dX9_determinant_212 ?_
  refine sm_bipush (pc := 215) dX9_determinant_215 zc_b_11 ?_
  refine sm_iload (pc := 217) (n := 7) dX9_determinant_217 ?_
  refine sm_imul (pc := 219) dX9_determinant_219 ?_
  refine sm_iload (pc := 220) (n := 5) dX9_determinant_220 ?_
  refine sm_iadd (pc := 222) dX9_determinant_222 ?_
  refine sm_laload (pc := 223) dX9_determinant_223 ?_
  refine sm_aload_n (pc := 224) (n := 0) dX9_determinant_224 rfl ?_
  refine gf_X9_108 (pc := 225) rfl dX9_determinant_225 ?_
  refine sm_bipush (pc := 228) dX9_determinant_228 zc_b_11 ?_
  refine sm_iload (pc := 230) (n := 5) dX9_determinant_230 ?_
  refine sm_imul (pc := 232) dX9_determinant_232 ?_
  refine sm_iload (pc := 233) (n := 8) dX9_determinant_233 ?_
  refine sm_iadd (pc := 235) dX9_determinant_235 ?_
  refine sm_laload (pc := 236) dX9_determinant_236 ?_
  refine sm_lmul (pc := 237) dX9_determinant_237 ?_
  refine sm_lsub (pc := 238) dX9_determinant_238 ?_
  refine sm_lload_n (pc := 239) (n := 2) dX9_determinant_239 rfl ?_
  refine sm_ldiv (pc := 240) dX9_determinant_240 ?_
  refine sm_lastore (pc := 241) dX9_determinant_241 ?_
  exact scX9_determinant_242 P r166 hr166
noncomputable def lX9_determinant_166 {d : Nat} (P : zP d) (r154 : zK d) (r166 : zK d) : zK d := (xild 8 (xild 1 (xcmp tge (xinc 7 1 r154) (xald 0 (xgfR 25 41 (xpI 11 (xild 7 (xbin zmul (xild 8 (xbin zadd (xald 0 (xgfR 25 41 (xpI 11 (xild 7 (xbin zmul (xild 8 (xbin zadd (xlal (xald 0 (xgfR 25 41 (xpI 11 (xild 5 (xbin zmul (xild 5 (cX9_determinant_208 P r166)))))))))))))))))))))))))
set_option maxRecDepth 100000 in
set_option maxHeartbeats 4000000 in
theorem slX9_determinant_166 {d : Nat} [zGh] (P : zP d) (r154 : zK d) (r166 : zK d) (hr154 : zSim X_X9_determinant 1 P 154 r154) (hr166 : zSim X_X9_determinant 1 P 166 r166) : zSim X_X9_determinant 1 P 166 (lX9_determinant_166 P r154 r166) := by
  unfold lX9_determinant_166
  refine sm_iload (pc := 166) (n := 8) dX9_determinant_166 ?_
  refine sm_iload_n (pc := 168) (n := 1) dX9_determinant_168 rfl ?_
  refine sm_icmp_ge (pc := 169) (tgt := 248) dX9_determinant_169 (by decide) ?_ ?_
  · skip
    refine sm_iinc (pc := 248) (n := 7) dX9_determinant_248 zc_i_1 ?_
    refine sm_goto (pc := 251) (tgt := 154) dX9_determinant_251 (by decide) ?_
    exact hr154
  · skip
    refine sm_aload_n (pc := 172) (n := 0) dX9_determinant_172 rfl ?_
    refine gf_X9_108 (pc := 173) rfl dX9_determinant_173 ?_
    refine sm_bipush (pc := 176) dX9_determinant_176 zc_b_11 ?_
    refine sm_iload (pc := 178) (n := 7) dX9_determinant_178 ?_
    refine sm_imul (pc := 180) dX9_determinant_180 ?_
    refine sm_iload (pc := 181) (n := 8) dX9_determinant_181 ?_
    refine sm_iadd (pc := 183) dX9_determinant_183 ?_
    refine sm_aload_n (pc := 184) (n := 0) dX9_determinant_184 rfl ?_
    refine gf_X9_108 (pc := 185) rfl dX9_determinant_185 ?_
    refine sm_bipush (pc := 188) dX9_determinant_188 zc_b_11 ?_
    refine sm_iload (pc := 190) (n := 7) dX9_determinant_190 ?_
    refine sm_imul (pc := 192) dX9_determinant_192 ?_
    refine sm_iload (pc := 193) (n := 8) dX9_determinant_193 ?_
    refine sm_iadd (pc := 195) dX9_determinant_195 ?_
    refine sm_laload (pc := 196) dX9_determinant_196 ?_
    refine sm_aload_n (pc := 197) (n := 0) dX9_determinant_197 rfl ?_
    refine gf_X9_108 (pc := 198) rfl dX9_determinant_198 ?_
    refine sm_bipush (pc := 201) dX9_determinant_201 zc_b_11 ?_
    refine sm_iload (pc := 203) (n := 5) dX9_determinant_203 ?_
    refine sm_imul (pc := 205) dX9_determinant_205 ?_
    refine sm_iload (pc := 206) (n := 5) dX9_determinant_206 ?_
    exact scX9_determinant_208 P r166 hr166
noncomputable def lX9_determinant_154 {d : Nat} (P : zP d) (r154 : zK d) (r8 : zK d) : zK d := (xild 7 (xild 1 (xcmp tge (xald 0 (xgfR 25 41 (xpI 11 (xild 5 (xbin zmul (xild 5 (xbin zadd (xlal (xlst 2 (xinc 5 1 r8)))))))))) (xild 5 (xpI 1 (xbin zadd (xist 8 (xloop (fun r166 => (lX9_determinant_166 P r154 r166)) 100000))))))))
set_option maxRecDepth 100000 in
set_option maxHeartbeats 4000000 in
theorem slX9_determinant_154 {d : Nat} [zGh] (P : zP d) (r154 : zK d) (r8 : zK d) (hr154 : zSim X_X9_determinant 1 P 154 r154) (hr8 : zSim X_X9_determinant 1 P 8 r8) : zSim X_X9_determinant 1 P 154 (lX9_determinant_154 P r154 r8) := by
  unfold lX9_determinant_154
  refine sm_iload (pc := 154) (n := 7) dX9_determinant_154 ?_
  refine sm_iload_n (pc := 156) (n := 1) dX9_determinant_156 rfl ?_
  refine sm_icmp_ge (pc := 157) (tgt := 254) dX9_determinant_157 (by decide) ?_ ?_
  · skip
    refine sm_aload_n (pc := 254) (n := 0) dX9_determinant_254 rfl ?_
    refine gf_X9_108 (pc := 255) rfl dX9_determinant_255 ?_
    refine sm_bipush (pc := 258) dX9_determinant_258 zc_b_11 ?_
    refine sm_iload (pc := 260) (n := 5) dX9_determinant_260 ?_
    refine sm_imul (pc := 262) dX9_determinant_262 ?_
    refine sm_iload (pc := 263) (n := 5) dX9_determinant_263 ?_
    refine sm_iadd (pc := 265) dX9_determinant_265 ?_
    refine sm_laload (pc := 266) dX9_determinant_266 ?_
    refine sm_lstore_n (pc := 267) (n := 2) dX9_determinant_267 rfl ?_
    refine sm_iinc (pc := 268) (n := 5) dX9_determinant_268 zc_i_1 ?_
    refine sm_goto (pc := 271) (tgt := 8) dX9_determinant_271 (by decide) ?_
    exact hr8
  · skip
    refine sm_iload (pc := 160) (n := 5) dX9_determinant_160 ?_
    refine sm_iconst (pc := 162) dX9_determinant_162 zc_i_1 ?_
    refine sm_iadd (pc := 163) dX9_determinant_163 ?_
    refine sm_istore (pc := 164) (n := 8) dX9_determinant_164 ?_
    exact sm_loop (fun r166 hr166 => slX9_determinant_166 P r154 r166 hr154 hr166) _
noncomputable def bX9_determinant_148 {d : Nat} (P : zP d) (r8 : zK d) : zK d := (xild 5 (xpI 1 (xbin zadd (xist 7 (xloop (fun r154 => (lX9_determinant_154 P r154 r8)) 100000)))))
set_option maxRecDepth 100000 in
set_option maxHeartbeats 4000000 in
theorem sbX9_determinant_148 {d : Nat} [zGh] (P : zP d) (r8 : zK d) (hr8 : zSim X_X9_determinant 1 P 8 r8) : zSim X_X9_determinant 1 P 148 (bX9_determinant_148 P r8) := by
  unfold bX9_determinant_148
  refine sm_iload (pc := 148) (n := 5) dX9_determinant_148 ?_
  refine sm_iconst (pc := 150) dX9_determinant_150 zc_i_1 ?_
  refine sm_iadd (pc := 151) dX9_determinant_151 ?_
  refine sm_istore (pc := 152) (n := 7) dX9_determinant_152 ?_
  exact sm_loop (fun r154 hr154 => slX9_determinant_154 P r154 r8 hr154 hr8) _
noncomputable def bX9_determinant_136 {d : Nat} (P : zP d) (r8 : zK d) : zK d := (xild 6 (xild 5 (xjoin (bX9_determinant_148 P r8) (fun j148 => (xcmp Nat.beq j148 (xild 4 (xun zneg (xist 4 j148))))))))
set_option maxRecDepth 100000 in
set_option maxHeartbeats 4000000 in
theorem sbX9_determinant_136 {d : Nat} [zGh] (P : zP d) (r8 : zK d) (hr8 : zSim X_X9_determinant 1 P 8 r8) : zSim X_X9_determinant 1 P 136 (bX9_determinant_136 P r8) := by
  unfold bX9_determinant_136
  refine sm_iload (pc := 136) (n := 6) dX9_determinant_136 ?_
  refine sm_iload (pc := 138) (n := 5) dX9_determinant_138 ?_
  refine sm_join (pc := 140) (pc' := 148) (sbX9_determinant_148 P r8 hr8) (fun j148 hj148 => ?_)
  refine sm_icmp_eq (pc := 140) (tgt := 148) dX9_determinant_140 (by decide) ?_ ?_
  · skip
    exact hj148
  · skip
    refine sm_iload (pc := 143) (n := 4) dX9_determinant_143 ?_
    refine sm_ineg (pc := 145) dX9_determinant_145 ?_
    refine sm_istore (pc := 146) (n := 4) dX9_determinant_146 ?_
    exact hj148
noncomputable def cX9_determinant_105 {d : Nat} (P : zP d) (r61 : zK d) : zK d := (xpI 11 (xild 5 (xbin zmul (xild 7 (xbin zadd (xlal (xlas (xald 0 (xgfR 25 41 (xpI 11 (xild 5 (xbin zmul (xild 7 (xbin zadd (xlld 8 (xlas (xinc 7 1 r61)))))))))))))))))
set_option maxRecDepth 100000 in
set_option maxHeartbeats 4000000 in
theorem scX9_determinant_105 {d : Nat} [zGh] (P : zP d) (r61 : zK d) (hr61 : zSim X_X9_determinant 1 P 61 r61) : zSim X_X9_determinant 1 P 105 (cX9_determinant_105 P r61) := by
  unfold cX9_determinant_105
  refine sm_bipush (pc := 105) dX9_determinant_105 zc_b_11 ?_
  refine sm_iload (pc := 107) (n := 5) dX9_determinant_107 ?_
  refine sm_imul (pc := 109) dX9_determinant_109 ?_
  refine sm_iload (pc := 110) (n := 7) dX9_determinant_110 ?_
  refine sm_iadd (pc := 112) dX9_determinant_112 ?_
  refine sm_laload (pc := 113) dX9_determinant_113 ?_
  refine sm_lastore (pc := 114) dX9_determinant_114 ?_
  refine sm_aload_n (pc := 115) (n := 0) dX9_determinant_115 rfl ?_
  refine gf_X9_108 (pc := 116) rfl dX9_determinant_116 ?_
  refine sm_bipush (pc := 119) dX9_determinant_119 zc_b_11 ?_
  refine sm_iload (pc := 121) (n := 5) dX9_determinant_121 ?_
  refine sm_imul (pc := 123) dX9_determinant_123 ?_
  refine sm_iload (pc := 124) (n := 7) dX9_determinant_124 ?_
  refine sm_iadd (pc := 126) dX9_determinant_126 ?_
  refine sm_lload (pc := 127) (n := 8) dX9_determinant_127 ?_
  refine sm_lastore (pc := 129) dX9_determinant_129 ?_
  refine sm_iinc (pc := 130) (n := 7) dX9_determinant_130 zc_i_1 ?_
  refine sm_goto (pc := 133) (tgt := 61) dX9_determinant_133 (by decide) ?_
  exact hr61
noncomputable def lX9_determinant_61 {d : Nat} (P : zP d) (r61 : zK d) (r8 : zK d) : zK d := (xild 7 (xild 1 (xjoin (bX9_determinant_136 P r8) (fun j136 => (xcmp tge j136 (xild 6 (xild 5 (xcmp Nat.beq j136 (xald 0 (xgfR 25 41 (xpI 11 (xild 6 (xbin zmul (xild 7 (xbin zadd (xlal (xlst 8 (xald 0 (xgfR 25 41 (xpI 11 (xild 6 (xbin zmul (xild 7 (xbin zadd (xald 0 (xgfR 25 41 (cX9_determinant_105 P r61)))))))))))))))))))))))))))
set_option maxRecDepth 100000 in
set_option maxHeartbeats 4000000 in
theorem slX9_determinant_61 {d : Nat} [zGh] (P : zP d) (r61 : zK d) (r8 : zK d) (hr61 : zSim X_X9_determinant 1 P 61 r61) (hr8 : zSim X_X9_determinant 1 P 8 r8) : zSim X_X9_determinant 1 P 61 (lX9_determinant_61 P r61 r8) := by
  unfold lX9_determinant_61
  refine sm_iload (pc := 61) (n := 7) dX9_determinant_61 ?_
  refine sm_iload_n (pc := 63) (n := 1) dX9_determinant_63 rfl ?_
  refine sm_join (pc := 64) (pc' := 136) (sbX9_determinant_136 P r8 hr8) (fun j136 hj136 => ?_)
  refine sm_icmp_ge (pc := 64) (tgt := 136) dX9_determinant_64 (by decide) ?_ ?_
  · skip
    exact hj136
  · skip
    refine sm_iload (pc := 67) (n := 6) dX9_determinant_67 ?_
    refine sm_iload (pc := 69) (n := 5) dX9_determinant_69 ?_
    refine sm_icmp_eq (pc := 71) (tgt := 136) dX9_determinant_71 (by decide) ?_ ?_
    · skip
      exact hj136
    · skip
      refine sm_aload_n (pc := 74) (n := 0) dX9_determinant_74 rfl ?_
      refine gf_X9_108 (pc := 75) rfl dX9_determinant_75 ?_
      refine sm_bipush (pc := 78) dX9_determinant_78 zc_b_11 ?_
      refine sm_iload (pc := 80) (n := 6) dX9_determinant_80 ?_
      refine sm_imul (pc := 82) dX9_determinant_82 ?_
      refine sm_iload (pc := 83) (n := 7) dX9_determinant_83 ?_
      refine sm_iadd (pc := 85) dX9_determinant_85 ?_
      refine sm_laload (pc := 86) dX9_determinant_86 ?_
      refine sm_lstore (pc := 87) (n := 8) dX9_determinant_87 ?_
      refine sm_aload_n (pc := 89) (n := 0) dX9_determinant_89 rfl ?_
      refine gf_X9_108 (pc := 90) rfl dX9_determinant_90 ?_
      refine sm_bipush (pc := 93) dX9_determinant_93 zc_b_11 ?_
      refine sm_iload (pc := 95) (n := 6) dX9_determinant_95 ?_
      refine sm_imul (pc := 97) dX9_determinant_97 ?_
      refine sm_iload (pc := 98) (n := 7) dX9_determinant_98 ?_
      refine sm_iadd (pc := 100) dX9_determinant_100 ?_
      refine sm_aload_n (pc := 101) (n := 0) dX9_determinant_101 rfl ?_
      refine gf_X9_108 (pc := 102) rfl dX9_determinant_102 ?_
      exact scX9_determinant_105 P r61 hr61
noncomputable def bX9_determinant_50 {d : Nat} (P : zP d) (r8 : zK d) : zK d := (xild 6 (xild 1 (xcmp Nat.beq (xpL 0 (xlret P)) (xpI 0 (xist 7 (xloop (fun r61 => (lX9_determinant_61 P r61 r8)) 100000))))))
set_option maxRecDepth 100000 in
set_option maxHeartbeats 4000000 in
theorem sbX9_determinant_50 {d : Nat} [zGh] (P : zP d) (r8 : zK d) (hr8 : zSim X_X9_determinant 1 P 8 r8) : zSim X_X9_determinant 1 P 50 (bX9_determinant_50 P r8) := by
  unfold bX9_determinant_50
  refine sm_iload (pc := 50) (n := 6) dX9_determinant_50 ?_
  refine sm_iload_n (pc := 52) (n := 1) dX9_determinant_52 rfl ?_
  refine sm_icmp_ne (pc := 53) (tgt := 58) dX9_determinant_53 (by decide) ?_ ?_
  · skip
    refine sm_iconst (pc := 58) dX9_determinant_58 zc_i_0 ?_
    refine sm_istore (pc := 59) (n := 7) dX9_determinant_59 ?_
    exact sm_loop (fun r61 hr61 => slX9_determinant_61 P r61 r8 hr61 hr8) _
  · skip
    refine sm_lconst (pc := 56) dX9_determinant_56 zc_l_0 ?_
    exact sm_lreturn (pc := 57) dX9_determinant_57 rfl
noncomputable def lX9_determinant_20 {d : Nat} (P : zP d) (r20 : zK d) (r8 : zK d) : zK d := (xild 6 (xild 1 (xjoin (bX9_determinant_50 P r8) (fun j50 => (xcmp tge j50 (xald 0 (xgfR 25 41 (xpI 11 (xild 6 (xbin zmul (xild 5 (xbin zadd (xlal (xpL 0 (xlcmp (xif0 t0eq (xinc 6 1 r20) j50))))))))))))))))
set_option maxRecDepth 100000 in
set_option maxHeartbeats 4000000 in
theorem slX9_determinant_20 {d : Nat} [zGh] (P : zP d) (r20 : zK d) (r8 : zK d) (hr20 : zSim X_X9_determinant 1 P 20 r20) (hr8 : zSim X_X9_determinant 1 P 8 r8) : zSim X_X9_determinant 1 P 20 (lX9_determinant_20 P r20 r8) := by
  unfold lX9_determinant_20
  refine sm_iload (pc := 20) (n := 6) dX9_determinant_20 ?_
  refine sm_iload_n (pc := 22) (n := 1) dX9_determinant_22 rfl ?_
  refine sm_join (pc := 23) (pc' := 50) (sbX9_determinant_50 P r8 hr8) (fun j50 hj50 => ?_)
  refine sm_icmp_ge (pc := 23) (tgt := 50) dX9_determinant_23 (by decide) ?_ ?_
  · skip
    exact hj50
  · skip
    refine sm_aload_n (pc := 26) (n := 0) dX9_determinant_26 rfl ?_
    refine gf_X9_108 (pc := 27) rfl dX9_determinant_27 ?_
    refine sm_bipush (pc := 30) dX9_determinant_30 zc_b_11 ?_
    refine sm_iload (pc := 32) (n := 6) dX9_determinant_32 ?_
    refine sm_imul (pc := 34) dX9_determinant_34 ?_
    refine sm_iload (pc := 35) (n := 5) dX9_determinant_35 ?_
    refine sm_iadd (pc := 37) dX9_determinant_37 ?_
    refine sm_laload (pc := 38) dX9_determinant_38 ?_
    refine sm_lconst (pc := 39) dX9_determinant_39 zc_l_0 ?_
    refine sm_lcmp (pc := 40) dX9_determinant_40 ?_
    refine sm_if_ne (pc := 41) (tgt := 50) dX9_determinant_41 (by decide) ?_ ?_
    · skip
      exact hj50
    · skip
      refine sm_iinc (pc := 44) (n := 6) dX9_determinant_44 zc_i_1 ?_
      refine sm_goto (pc := 47) (tgt := 20) dX9_determinant_47 (by decide) ?_
      exact hr20
noncomputable def lX9_determinant_8 {d : Nat} (P : zP d) (r8 : zK d) : zK d := (xild 5 (xild 1 (xpI 1 (xbin zsub (xcmp tge (xild 1 (xjoin (bX9_determinant_301 P) (fun j301 => (xif0 t0eq (xpL 1 j301) (xild 4 (xi2l (xald 0 (xgfR 25 41 (xpI 11 (xild 1 (xpI 1 (xbin zsub (xbin zmul (xild 1 (xbin zadd (xpI 1 (xbin zsub (xlal (xbinj zmulj j301))))))))))))))))))) (xild 5 (xist 6 (xloop (fun r20 => (lX9_determinant_20 P r20 r8)) 100000))))))))
set_option maxRecDepth 100000 in
set_option maxHeartbeats 4000000 in
theorem slX9_determinant_8 {d : Nat} [zGh] (P : zP d) (r8 : zK d) (hr8 : zSim X_X9_determinant 1 P 8 r8) : zSim X_X9_determinant 1 P 8 (lX9_determinant_8 P r8) := by
  unfold lX9_determinant_8
  refine sm_iload (pc := 8) (n := 5) dX9_determinant_8 ?_
  refine sm_iload_n (pc := 10) (n := 1) dX9_determinant_10 rfl ?_
  refine sm_iconst (pc := 11) dX9_determinant_11 zc_i_1 ?_
  refine sm_isub (pc := 12) dX9_determinant_12 ?_
  refine sm_icmp_ge (pc := 13) (tgt := 274) dX9_determinant_13 (by decide) ?_ ?_
  · skip
    refine sm_iload_n (pc := 274) (n := 1) dX9_determinant_274 rfl ?_
    refine sm_join (pc := 275) (pc' := 301) (sbX9_determinant_301 P) (fun j301 hj301 => ?_)
    refine sm_if_ne (pc := 275) (tgt := 282) dX9_determinant_275 (by decide) ?_ ?_
    · skip
      refine sm_iload (pc := 282) (n := 4) dX9_determinant_282 ?_
      refine sm_i2l (pc := 284) dX9_determinant_284 ?_
      refine sm_aload_n (pc := 285) (n := 0) dX9_determinant_285 rfl ?_
      refine gf_X9_108 (pc := 286) rfl dX9_determinant_286 ?_
      refine sm_bipush (pc := 289) dX9_determinant_289 zc_b_11 ?_
      refine sm_iload_n (pc := 291) (n := 1) dX9_determinant_291 rfl ?_
      refine sm_iconst (pc := 292) dX9_determinant_292 zc_i_1 ?_
      refine sm_isub (pc := 293) dX9_determinant_293 ?_
      refine sm_imul (pc := 294) dX9_determinant_294 ?_
      refine sm_iload_n (pc := 295) (n := 1) dX9_determinant_295 rfl ?_
      refine sm_iadd (pc := 296) dX9_determinant_296 ?_
      refine sm_iconst (pc := 297) dX9_determinant_297 zc_i_1 ?_
      refine sm_isub (pc := 298) dX9_determinant_298 ?_
      refine sm_laload (pc := 299) dX9_determinant_299 ?_
      refine sm_lmul (pc := 300) dX9_determinant_300 ?_
      exact hj301
    · skip
      refine sm_lconst (pc := 278) dX9_determinant_278 zc_l_1 ?_
      refine sm_goto (pc := 279) (tgt := 301) dX9_determinant_279 (by decide) ?_
      exact hj301
  · skip
    refine sm_iload (pc := 16) (n := 5) dX9_determinant_16 ?_
    refine sm_istore (pc := 18) (n := 6) dX9_determinant_18 ?_
    exact sm_loop (fun r20 hr20 => slX9_determinant_20 P r20 r8 hr20 hr8) _
noncomputable def b_X9_determinant {d : Nat} (P : zP d) : zK d := (xpL 1 (xlst 2 (xpI 1 (xist 4 (xpI 0 (xist 5 (xloop (fun r8 => (lX9_determinant_8 P r8)) 100000)))))))
set_option maxRecDepth 100000 in
set_option maxHeartbeats 4000000 in
theorem s_X9_determinant {d : Nat} [zGh] (P : zP d) : zSim X_X9_determinant 1 P 0 (b_X9_determinant P) := by
  unfold b_X9_determinant
  refine sm_lconst (pc := 0) dX9_determinant_0 zc_l_1 ?_
  refine sm_lstore_n (pc := 1) (n := 2) dX9_determinant_1 rfl ?_
  refine sm_iconst (pc := 2) dX9_determinant_2 zc_i_1 ?_
  refine sm_istore (pc := 3) (n := 4) dX9_determinant_3 ?_
  refine sm_iconst (pc := 5) dX9_determinant_5 zc_i_0 ?_
  refine sm_istore (pc := 6) (n := 5) dX9_determinant_6 ?_
  exact sm_loop (fun r8 hr8 => slX9_determinant_8 P r8 hr8) _
noncomputable def f_X9_determinant {d : Nat} : List zV → zH d → zP d → Bool := zfn 10 b_X9_determinant
theorem m_X9_determinant {d : Nat} : zMet (d := d) X_X9_determinant yX9_determinant 1 f_X9_determinant := zmet_mk (X := X_X9_determinant) (by decide) rfl rfl s_X9_determinant

abbrev X_X9_defect : zM := (RX9, cX9_defect, 5, (some .int), "defect")
noncomputable def lX9_defect_17 {d : Nat} (P : zP d) (r17 : zK d) (r4 : zK d) : zK d := (xild 4 (xald 0 (xgfI 25 1 (xbinN zrem (xif0 t0eq (xinc 2 1 (xild 4 (xald 0 (xgfI 25 1 (xbinN zdiv (xist 4 r17)))))) (xinc 3 1 r4))))))
set_option maxRecDepth 100000 in
set_option maxHeartbeats 4000000 in
theorem slX9_defect_17 {d : Nat} [zGh] (P : zP d) (r17 : zK d) (r4 : zK d) (hr17 : zSim X_X9_defect 1 P 17 r17) (hr4 : zSim X_X9_defect 1 P 4 r4) : zSim X_X9_defect 1 P 17 (lX9_defect_17 P r17 r4) := by
  unfold lX9_defect_17
  refine sm_iload (pc := 17) (n := 4) dX9_defect_17 ?_
  refine sm_aload_n (pc := 19) (n := 0) dX9_defect_19 rfl ?_
  refine gf_X9_184 (pc := 20) rfl dX9_defect_20 ?_
  refine sm_irem (pc := 23) dX9_defect_23 ?_
  refine sm_if_ne (pc := 24) (tgt := 42) dX9_defect_24 (by decide) ?_ ?_
  · skip
    refine sm_iinc (pc := 42) (n := 3) dX9_defect_42 zc_i_1 ?_
    refine sm_goto (pc := 45) (tgt := 4) dX9_defect_45 (by decide) ?_
    exact hr4
  · skip
    refine sm_iinc (pc := 27) (n := 2) dX9_defect_27 zc_i_1 ?_
    refine sm_iload (pc := 30) (n := 4) dX9_defect_30 ?_
    refine sm_aload_n (pc := 32) (n := 0) dX9_defect_32 rfl ?_
    refine gf_X9_184 (pc := 33) rfl dX9_defect_33 ?_
    refine sm_idiv (pc := 36) dX9_defect_36 ?_
    refine sm_istore (pc := 37) (n := 4) dX9_defect_37 ?_
    refine sm_goto (pc := 39) (tgt := 17) dX9_defect_39 (by decide) ?_
    exact hr17
noncomputable def lX9_defect_4 {d : Nat} (P : zP d) (r4 : zK d) : zK d := (xild 3 (xald 0 (xgfI 25 1 (xild 1 (xbin zmul (xcmp tle (xild 3 (xist 4 (xloop (fun r17 => (lX9_defect_17 P r17 r4)) 100000))) (xild 2 (xiret P))))))))
set_option maxRecDepth 100000 in
set_option maxHeartbeats 4000000 in
theorem slX9_defect_4 {d : Nat} [zGh] (P : zP d) (r4 : zK d) (hr4 : zSim X_X9_defect 1 P 4 r4) : zSim X_X9_defect 1 P 4 (lX9_defect_4 P r4) := by
  unfold lX9_defect_4
  refine sm_iload_n (pc := 4) (n := 3) dX9_defect_4 rfl ?_
  refine sm_aload_n (pc := 5) (n := 0) dX9_defect_5 rfl ?_
  refine gf_X9_184 (pc := 6) rfl dX9_defect_6 ?_
  refine sm_iload_n (pc := 9) (n := 1) dX9_defect_9 rfl ?_
  refine sm_imul (pc := 10) dX9_defect_10 ?_
  refine sm_icmp_gt (pc := 11) (tgt := 48) dX9_defect_11 (by decide) ?_ ?_
  · skip
    refine sm_iload_n (pc := 48) (n := 2) dX9_defect_48 rfl ?_
    exact sm_ireturn (pc := 49) dX9_defect_49 rfl
  · skip
    refine sm_iload_n (pc := 14) (n := 3) dX9_defect_14 rfl ?_
    refine sm_istore (pc := 15) (n := 4) dX9_defect_15 ?_
    exact sm_loop (fun r17 hr17 => slX9_defect_17 P r17 r4 hr17 hr4) _
noncomputable def b_X9_defect {d : Nat} (P : zP d) : zK d := (xpI 0 (xist 2 (xpI 1 (xist 3 (xloop (fun r4 => (lX9_defect_4 P r4)) 100000)))))
set_option maxRecDepth 100000 in
set_option maxHeartbeats 4000000 in
theorem s_X9_defect {d : Nat} [zGh] (P : zP d) : zSim X_X9_defect 1 P 0 (b_X9_defect P) := by
  unfold b_X9_defect
  refine sm_iconst (pc := 0) dX9_defect_0 zc_i_0 ?_
  refine sm_istore_n (pc := 1) (n := 2) dX9_defect_1 rfl ?_
  refine sm_iconst (pc := 2) dX9_defect_2 zc_i_1 ?_
  refine sm_istore_n (pc := 3) (n := 3) dX9_defect_3 rfl ?_
  exact sm_loop (fun r4 hr4 => slX9_defect_4 P r4 hr4) _
noncomputable def f_X9_defect {d : Nat} : List zV → zH d → zP d → Bool := zfn 5 b_X9_defect
theorem m_X9_defect {d : Nat} : zMet (d := d) X_X9_defect yX9_defect 1 f_X9_defect := zmet_mk (X := X_X9_defect) (by decide) rfl rfl s_X9_defect

abbrev X_X9_block : zM := (RX9, cX9_block, 7, (some .int), "block")
noncomputable def bX9_block_229 {d : Nat} (P : zP d) : zK d := (xpI 4294967295 (xiret P))
set_option maxRecDepth 100000 in
set_option maxHeartbeats 4000000 in
theorem sbX9_block_229 {d : Nat} [zGh] (P : zP d) : zSim X_X9_block 2 P 229 (bX9_block_229 P) := by
  unfold bX9_block_229
  refine sm_iconst (pc := 229) dX9_block_229 zc_i_m1 ?_
  exact sm_ireturn (pc := 230) dX9_block_230 rfl
noncomputable def bX9_block_120 {d : Nat} (P : zP d) : zK d := (xild 4 (xiret P))
set_option maxRecDepth 100000 in
set_option maxHeartbeats 4000000 in
theorem sbX9_block_120 {d : Nat} [zGh] (P : zP d) : zSim X_X9_block 2 P 120 (bX9_block_120 P) := by
  unfold bX9_block_120
  refine sm_iload (pc := 120) (n := 4) dX9_block_120 ?_
  exact sm_ireturn (pc := 122) dX9_block_122 rfl
noncomputable def bX9_block_123 {d : Nat} (P : zP d) : zK d := (xild 3 (xiret P))
set_option maxRecDepth 100000 in
set_option maxHeartbeats 4000000 in
theorem sbX9_block_123 {d : Nat} [zGh] (P : zP d) : zSim X_X9_block 2 P 123 (bX9_block_123 P) := by
  unfold bX9_block_123
  refine sm_iload_n (pc := 123) (n := 3) dX9_block_123 rfl ?_
  exact sm_ireturn (pc := 124) dX9_block_124 rfl
noncomputable def bX9_block_125 {d : Nat} (P : zP d) : zK d := (xald 0 (xgfR 25 15 (xald 0 (xgfR 25 19 (xild 1 (xald1 0 (xald1 0 (xiret P))))))))
set_option maxRecDepth 100000 in
set_option maxHeartbeats 4000000 in
theorem sbX9_block_125 {d : Nat} [zGh] (P : zP d) : zSim X_X9_block 2 P 125 (bX9_block_125 P) := by
  unfold bX9_block_125
  refine sm_aload_n (pc := 125) (n := 0) dX9_block_125 rfl ?_
  refine gf_X9_41 (pc := 126) rfl dX9_block_126 ?_
  refine sm_aload_n (pc := 129) (n := 0) dX9_block_129 rfl ?_
  refine gf_X9_50 (pc := 130) rfl dX9_block_130 ?_
  refine sm_iload_n (pc := 133) (n := 1) dX9_block_133 rfl ?_
  refine sm_iaload (pc := 134) dX9_block_134 ?_
  refine sm_iaload (pc := 135) dX9_block_135 ?_
  exact sm_ireturn (pc := 136) dX9_block_136 rfl
noncomputable def bX9_block_137 {d : Nat} (P : zP d) : zK d := (xald 0 (xald 0 (xgfR 25 15 (xald 0 (xgfR 25 19 (xild 1 (xald1 0 (xald1 0 (xcV 25 2 0 0 f_X9_defect (xiret P))))))))))
set_option maxRecDepth 100000 in
set_option maxHeartbeats 4000000 in
theorem sbX9_block_137 {d : Nat} [zGh] (P : zP d) : zSim X_X9_block 2 P 137 (bX9_block_137 P) := by
  unfold bX9_block_137
  refine sm_aload_n (pc := 137) (n := 0) dX9_block_137 rfl ?_
  refine sm_aload_n (pc := 138) (n := 0) dX9_block_138 rfl ?_
  refine gf_X9_41 (pc := 139) rfl dX9_block_139 ?_
  refine sm_aload_n (pc := 142) (n := 0) dX9_block_142 rfl ?_
  refine gf_X9_50 (pc := 143) rfl dX9_block_143 ?_
  refine sm_iload_n (pc := 146) (n := 1) dX9_block_146 rfl ?_
  refine sm_iaload (pc := 147) dX9_block_147 ?_
  refine sm_iaload (pc := 148) dX9_block_148 ?_
  refine sm_cV (pc := 149) (ci := 9) (n := 2) (mc := 0) (ms := 0) rfl m_X9_defect (cr_X9_312 (X := X_X9_block) (fr := 2) (frc := 1) (pc := 149) (mc := 0) (ms := 0) rfl (by decide) dX9_block_149) ?_
  exact sm_ireturn (pc := 152) dX9_block_152 rfl
noncomputable def bX9_block_153 {d : Nat} (P : zP d) : zK d := (xald 0 (xgfR 25 19 (xild 1 (xald1 0 (xiret P)))))
set_option maxRecDepth 100000 in
set_option maxHeartbeats 4000000 in
theorem sbX9_block_153 {d : Nat} [zGh] (P : zP d) : zSim X_X9_block 2 P 153 (bX9_block_153 P) := by
  unfold bX9_block_153
  refine sm_aload_n (pc := 153) (n := 0) dX9_block_153 rfl ?_
  refine gf_X9_50 (pc := 154) rfl dX9_block_154 ?_
  refine sm_iload_n (pc := 157) (n := 1) dX9_block_157 rfl ?_
  refine sm_iaload (pc := 158) dX9_block_158 ?_
  exact sm_ireturn (pc := 159) dX9_block_159 rfl
noncomputable def lX9_block_172 {d : Nat} (P : zP d) (r163 : zK d) (r172 : zK d) : zK d := (xild 6 (xild 3 (xcmp tge (xinc 5 1 r163) (xald 0 (xgfR 25 41 (xpI 11 (xild 5 (xbin zmul (xild 6 (xbin zadd (xald 0 (xald 0 (xgfR 25 42 (xild 5 (xald1 0 (xald 0 (xgfR 25 42 (xild 6 (xald1 0 (xcV 25 3 0 0 f_X9_cartanOf (xi2l (xlas (xinc 6 1 r172)))))))))))))))))))))))
set_option maxRecDepth 100000 in
set_option maxHeartbeats 4000000 in
theorem slX9_block_172 {d : Nat} [zGh] (P : zP d) (r163 : zK d) (r172 : zK d) (hr163 : zSim X_X9_block 2 P 163 r163) (hr172 : zSim X_X9_block 2 P 172 r172) : zSim X_X9_block 2 P 172 (lX9_block_172 P r163 r172) := by
  unfold lX9_block_172
  refine sm_iload (pc := 172) (n := 6) dX9_block_172 ?_
  refine sm_iload_n (pc := 174) (n := 3) dX9_block_174 rfl ?_
  refine sm_icmp_ge (pc := 175) (tgt := 216) dX9_block_175 (by decide) ?_ ?_
  · skip
    refine sm_iinc (pc := 216) (n := 5) dX9_block_216 zc_i_1 ?_
    refine sm_goto (pc := 219) (tgt := 163) dX9_block_219 (by decide) ?_
    exact hr163
  · skip
    refine sm_aload_n (pc := 178) (n := 0) dX9_block_178 rfl ?_
    refine gf_X9_108 (pc := 179) rfl dX9_block_179 ?_
    refine sm_bipush (pc := 182) dX9_block_182 zc_b_11 ?_
    refine sm_iload (pc := 184) (n := 5) dX9_block_184 ?_
    refine sm_imul (pc := 186) dX9_block_186 ?_
    refine sm_iload (pc := 187) (n := 6) dX9_block_187 ?_
    refine sm_iadd (pc := 189) dX9_block_189 ?_
    refine sm_aload_n (pc := 190) (n := 0) dX9_block_190 rfl ?_
    refine sm_aload_n (pc := 191) (n := 0) dX9_block_191 rfl ?_
    refine gf_X9_112 (pc := 192) rfl dX9_block_192 ?_
    refine sm_iload (pc := 195) (n := 5) dX9_block_195 ?_
    refine sm_iaload (pc := 197) dX9_block_197 ?_
    refine sm_aload_n (pc := 198) (n := 0) dX9_block_198 rfl ?_
    refine gf_X9_112 (pc := 199) rfl dX9_block_199 ?_
    refine sm_iload (pc := 202) (n := 6) dX9_block_202 ?_
    refine sm_iaload (pc := 204) dX9_block_204 ?_
    refine sm_cV (pc := 205) (ci := 9) (n := 3) (mc := 0) (ms := 0) rfl m_X9_cartanOf (cr_X9_306 (X := X_X9_block) (fr := 2) (frc := 1) (pc := 205) (mc := 0) (ms := 0) rfl (by decide) dX9_block_205) ?_
    refine sm_i2l (pc := 208) dX9_block_208 ?_
    refine sm_lastore (pc := 209) dX9_block_209 ?_
    refine sm_iinc (pc := 210) (n := 6) dX9_block_210 zc_i_1 ?_
    refine sm_goto (pc := 213) (tgt := 172) dX9_block_213 (by decide) ?_
    exact hr172
noncomputable def lX9_block_163 {d : Nat} (P : zP d) (r163 : zK d) : zK d := (xild 5 (xild 3 (xcmp tge (xald 0 (xild 3 (xcV 25 2 0 0 f_X9_determinant (xl2i (xiret P))))) (xpI 0 (xist 6 (xloop (fun r172 => (lX9_block_172 P r163 r172)) 100000))))))
set_option maxRecDepth 100000 in
set_option maxHeartbeats 4000000 in
theorem slX9_block_163 {d : Nat} [zGh] (P : zP d) (r163 : zK d) (hr163 : zSim X_X9_block 2 P 163 r163) : zSim X_X9_block 2 P 163 (lX9_block_163 P r163) := by
  unfold lX9_block_163
  refine sm_iload (pc := 163) (n := 5) dX9_block_163 ?_
  refine sm_iload_n (pc := 165) (n := 3) dX9_block_165 rfl ?_
  refine sm_icmp_ge (pc := 166) (tgt := 222) dX9_block_166 (by decide) ?_ ?_
  · skip
    refine sm_aload_n (pc := 222) (n := 0) dX9_block_222 rfl ?_
    refine sm_iload_n (pc := 223) (n := 3) dX9_block_223 rfl ?_
    refine sm_cV (pc := 224) (ci := 9) (n := 2) (mc := 0) (ms := 0) rfl m_X9_determinant (cr_X9_315 (X := X_X9_block) (fr := 2) (frc := 1) (pc := 224) (mc := 0) (ms := 0) rfl (by decide) dX9_block_224) ?_
    refine sm_l2i (pc := 227) dX9_block_227 ?_
    exact sm_ireturn (pc := 228) dX9_block_228 rfl
  · skip
    refine sm_iconst (pc := 169) dX9_block_169 zc_i_0 ?_
    refine sm_istore (pc := 170) (n := 6) dX9_block_170 ?_
    exact sm_loop (fun r172 hr172 => slX9_block_172 P r163 r172 hr163 hr172) _
noncomputable def bX9_block_160 {d : Nat} (P : zP d) : zK d := (xpI 0 (xist 5 (xloop (fun r163 => (lX9_block_163 P r163)) 100000)))
set_option maxRecDepth 100000 in
set_option maxHeartbeats 4000000 in
theorem sbX9_block_160 {d : Nat} [zGh] (P : zP d) : zSim X_X9_block 2 P 160 (bX9_block_160 P) := by
  unfold bX9_block_160
  refine sm_iconst (pc := 160) dX9_block_160 zc_i_0 ?_
  refine sm_istore (pc := 161) (n := 5) dX9_block_161 ?_
  exact sm_loop (fun r163 hr163 => slX9_block_163 P r163 hr163) _
noncomputable def bX9_block_67 {d : Nat} (P : zP d) (r40 : zK d) : zK d := (xcS 1 0 0 f_X9_one (xbin zadd (xist 4 (xinc 5 1 r40))))
set_option maxRecDepth 100000 in
set_option maxHeartbeats 4000000 in
theorem sbX9_block_67 {d : Nat} [zGh] (P : zP d) (r40 : zK d) (hr40 : zSim X_X9_block 2 P 40 r40) : zSim X_X9_block 2 P 67 (bX9_block_67 P r40) := by
  unfold bX9_block_67
  refine sm_cS (pc := 67) (n := 1) (mc := 0) (ms := 0) m_X9_one (cr_X9_187 (X := X_X9_block) (fr := 2) (frc := 1) (pc := 67) (mc := 0) (ms := 0) rfl (by decide) dX9_block_67) ?_
  refine sm_iadd (pc := 70) dX9_block_70 ?_
  refine sm_istore (pc := 71) (n := 4) dX9_block_71 ?_
  refine sm_iinc (pc := 73) (n := 5) dX9_block_73 zc_i_1 ?_
  refine sm_goto (pc := 76) (tgt := 40) dX9_block_76 (by decide) ?_
  exact hr40
noncomputable def lX9_block_40 {d : Nat} (P : zP d) (r40 : zK d) : zK d := (xild 5 (xald 0 (xgfI 25 2 (xcmp tge (xild 2 (xtsw [(bX9_block_120 P), (bX9_block_123 P), (bX9_block_125 P), (bX9_block_137 P), (bX9_block_153 P), (bX9_block_160 P)] (bX9_block_229 P))) (xild 4 (xald 0 (xgfR 25 17 (xild 5 (xald1 0 (xild 1 (xjoin (bX9_block_67 P r40) (fun j67 => (xcmp Nat.beq (xpI 1 j67) (xpI 0 j67))))))))))))))
set_option maxRecDepth 100000 in
set_option maxHeartbeats 4000000 in
theorem slX9_block_40 {d : Nat} [zGh] (P : zP d) (r40 : zK d) (hr40 : zSim X_X9_block 2 P 40 r40) : zSim X_X9_block 2 P 40 (lX9_block_40 P r40) := by
  unfold lX9_block_40
  refine sm_iload (pc := 40) (n := 5) dX9_block_40 ?_
  refine sm_aload_n (pc := 42) (n := 0) dX9_block_42 rfl ?_
  refine gf_X9_153 (pc := 43) rfl dX9_block_43 ?_
  refine sm_icmp_ge (pc := 46) (tgt := 79) dX9_block_46 (by decide) ?_ ?_
  · skip
    refine sm_iload_n (pc := 79) (n := 2) dX9_block_79 rfl ?_
    refine sm_tsw2 (pc := 80) (n := 5) (tdf := 229) [120, 123, 125, 137, 153, 160] rfl (by decide) dX9_block_80 rfl (by decide +kernel) (by decide) (sbX9_block_229 P) (fun i k t hk ht => ?_)
    match i, hk, ht with
    | 0, hk, ht => cases hk; cases ht; exact sbX9_block_120 P
    | 1, hk, ht => cases hk; cases ht; exact sbX9_block_123 P
    | 2, hk, ht => cases hk; cases ht; exact sbX9_block_125 P
    | 3, hk, ht => cases hk; cases ht; exact sbX9_block_137 P
    | 4, hk, ht => cases hk; cases ht; exact sbX9_block_153 P
    | 5, hk, ht => cases hk; cases ht; exact sbX9_block_160 P
    | i + 6, hk, ht => cases hk
  · skip
    refine sm_iload (pc := 49) (n := 4) dX9_block_49 ?_
    refine sm_aload_n (pc := 51) (n := 0) dX9_block_51 rfl ?_
    refine gf_X9_47 (pc := 52) rfl dX9_block_52 ?_
    refine sm_iload (pc := 55) (n := 5) dX9_block_55 ?_
    refine sm_iaload (pc := 57) dX9_block_57 ?_
    refine sm_iload_n (pc := 58) (n := 1) dX9_block_58 rfl ?_
    refine sm_join (pc := 59) (pc' := 67) (sbX9_block_67 P r40 hr40) (fun j67 hj67 => ?_)
    refine sm_icmp_ne (pc := 59) (tgt := 66) dX9_block_59 (by decide) ?_ ?_
    · skip
      refine sm_iconst (pc := 66) dX9_block_66 zc_i_0 ?_
      exact hj67
    · skip
      refine sm_iconst (pc := 62) dX9_block_62 zc_i_1 ?_
      refine sm_goto (pc := 63) (tgt := 67) dX9_block_63 (by decide) ?_
      exact hj67
noncomputable def b_X9_block {d : Nat} (P : zP d) : zK d := (xild 2 (xpI 4294967295 (xcmp Nat.beq (xald 0 (xgfI 25 18 (xiret P))) (xild 1 (xi2l (xpL 0 (xald 0 (xgfI 25 18 (xpI 1 (xbin zsub (xi2l (xcS 3 0 0 f_X9_isIn (xif0 t0eq (xpI 4294967295 (xiret P)) (xald 0 (xild 1 (xcV 25 2 0 0 f_X9_membersOf (xist 3 (xpI 0 (xist 4 (xpI 0 (xist 5 (xloop (fun r40 => (lX9_block_40 P r40)) 100000))))))))))))))))))))))
set_option maxRecDepth 100000 in
set_option maxHeartbeats 4000000 in
theorem s_X9_block {d : Nat} [zGh] (P : zP d) : zSim X_X9_block 2 P 0 (b_X9_block P) := by
  unfold b_X9_block
  refine sm_iload_n (pc := 0) (n := 2) dX9_block_0 rfl ?_
  refine sm_iconst (pc := 1) dX9_block_1 zc_i_m1 ?_
  refine sm_icmp_ne (pc := 2) (tgt := 10) dX9_block_2 (by decide) ?_ ?_
  · skip
    refine sm_iload_n (pc := 10) (n := 1) dX9_block_10 rfl ?_
    refine sm_i2l (pc := 11) dX9_block_11 ?_
    refine sm_lconst (pc := 12) dX9_block_12 zc_l_0 ?_
    refine sm_aload_n (pc := 13) (n := 0) dX9_block_13 rfl ?_
    refine gf_X9_199 (pc := 14) rfl dX9_block_14 ?_
    refine sm_iconst (pc := 17) dX9_block_17 zc_i_1 ?_
    refine sm_isub (pc := 18) dX9_block_18 ?_
    refine sm_i2l (pc := 19) dX9_block_19 ?_
    refine sm_cS (pc := 20) (n := 3) (mc := 0) (ms := 0) m_X9_isIn (cr_X9_283 (X := X_X9_block) (fr := 2) (frc := 1) (pc := 20) (mc := 0) (ms := 0) rfl (by decide) dX9_block_20) ?_
    refine sm_if_ne (pc := 23) (tgt := 28) dX9_block_23 (by decide) ?_ ?_
    · skip
      refine sm_aload_n (pc := 28) (n := 0) dX9_block_28 rfl ?_
      refine sm_iload_n (pc := 29) (n := 1) dX9_block_29 rfl ?_
      refine sm_cV (pc := 30) (ci := 9) (n := 2) (mc := 0) (ms := 0) rfl m_X9_membersOf (cr_X9_309 (X := X_X9_block) (fr := 2) (frc := 1) (pc := 30) (mc := 0) (ms := 0) rfl (by decide) dX9_block_30) ?_
      refine sm_istore_n (pc := 33) (n := 3) dX9_block_33 rfl ?_
      refine sm_iconst (pc := 34) dX9_block_34 zc_i_0 ?_
      refine sm_istore (pc := 35) (n := 4) dX9_block_35 ?_
      refine sm_iconst (pc := 37) dX9_block_37 zc_i_0 ?_
      refine sm_istore (pc := 38) (n := 5) dX9_block_38 ?_
      exact sm_loop (fun r40 hr40 => slX9_block_40 P r40 hr40) _
    · skip
      refine sm_iconst (pc := 26) dX9_block_26 zc_i_m1 ?_
      exact sm_ireturn (pc := 27) dX9_block_27 rfl
  · skip
    refine sm_aload_n (pc := 5) (n := 0) dX9_block_5 rfl ?_
    refine gf_X9_199 (pc := 6) rfl dX9_block_6 ?_
    exact sm_ireturn (pc := 9) dX9_block_9 rfl
noncomputable def f_X9_block {d : Nat} : List zV → zH d → zP d → Bool := zfn 7 b_X9_block
theorem m_X9_block {d : Nat} : zMet (d := d) X_X9_block yX9_block 2 f_X9_block := zmet_mk (X := X_X9_block) (by decide) rfl rfl s_X9_block

abbrev X_X9_isSlot : zM := (RX9, cX9_isSlot, 1, (some .boolean), "isSlot")
noncomputable def b_X9_isSlot {d : Nat} (P : zP d) : zK d := (xild 0 (xi2l (xpL 0 (xpL 5 (xcS 3 0 0 f_X9_isIn (xzret P))))))
set_option maxRecDepth 100000 in
set_option maxHeartbeats 4000000 in
theorem s_X9_isSlot {d : Nat} [zGh] (P : zP d) : zSim X_X9_isSlot 2 P 0 (b_X9_isSlot P) := by
  unfold b_X9_isSlot
  refine sm_iload_n (pc := 0) (n := 0) dX9_isSlot_0 rfl ?_
  refine sm_i2l (pc := 1) dX9_isSlot_1 ?_
  refine sm_lconst (pc := 2) dX9_isSlot_2 zc_l_0 ?_
  refine sm_ldc2 (pc := 3) dX9_isSlot_3 wd_1247 zc_cl_5 ?_
  refine sm_cS (pc := 6) (n := 3) (mc := 0) (ms := 0) m_X9_isIn (cr_X9_283 (X := X_X9_isSlot) (fr := 2) (frc := 1) (pc := 6) (mc := 0) (ms := 0) rfl (by decide) dX9_isSlot_6) ?_
  exact sm_zreturn (pc := 9) dX9_isSlot_9 rfl
noncomputable def f_X9_isSlot {d : Nat} : List zV → zH d → zP d → Bool := zfn 1 b_X9_isSlot
theorem m_X9_isSlot {d : Nat} : zMet (d := d) X_X9_isSlot yX9_isSlot 2 f_X9_isSlot := zmet_mk (X := X_X9_isSlot) (by decide) rfl rfl s_X9_isSlot

abbrev X_X9_value : zM := (RX9, cX9_value, 3, (some .long), "value")
noncomputable def bX9_value_32 {d : Nat} (P : zP d) : zK d := (xlret P)
set_option maxRecDepth 100000 in
set_option maxHeartbeats 4000000 in
theorem sbX9_value_32 {d : Nat} [zGh] (P : zP d) : zSim X_X9_value 3 P 32 (bX9_value_32 P) := by
  unfold bX9_value_32
  exact sm_lreturn (pc := 32) dX9_value_32 rfl
noncomputable def bX9_value_29 {d : Nat} (P : zP d) (j32 : zK d) : zK d := (xpL 9223372036854775808 j32)
set_option maxRecDepth 100000 in
set_option maxHeartbeats 4000000 in
theorem sbX9_value_29 {d : Nat} [zGh] (P : zP d) (j32 : zK d) (hj32 : zSim X_X9_value 3 P 32 j32) : zSim X_X9_value 3 P 29 (bX9_value_29 P j32) := by
  unfold bX9_value_29
  refine sm_ldc2 (pc := 29) dX9_value_29 wd_1311 zc_cl_m9223372036854775808 ?_
  exact hj32
noncomputable def b_X9_value {d : Nat} (P : zP d) : zK d := (xild 1 (xcS 1 0 0 f_X9_isSlot (xjoin (bX9_value_32 P) (fun j32 => (xjoin (bX9_value_29 P j32) (fun j29 => (xif0 t0eq j29 (xald 0 (xild 2 (xcV 25 2 0 0 f_X9_isPart (xif0 t0eq j29 (xald 0 (xgfR 25 43 (xpI 11 (xild 1 (xbin zmul (xild 2 (xbin zadd (xlal j32)))))))))))))))))))
set_option maxRecDepth 100000 in
set_option maxHeartbeats 4000000 in
theorem s_X9_value {d : Nat} [zGh] (P : zP d) : zSim X_X9_value 3 P 0 (b_X9_value P) := by
  unfold b_X9_value
  refine sm_iload_n (pc := 0) (n := 1) dX9_value_0 rfl ?_
  refine sm_cS (pc := 1) (n := 1) (mc := 0) (ms := 0) m_X9_isSlot (cr_X9_319 (X := X_X9_value) (fr := 3) (frc := 2) (pc := 1) (mc := 0) (ms := 0) rfl (by decide) dX9_value_1) ?_
  refine sm_join (pc := 4) (pc' := 32) (sbX9_value_32 P) (fun j32 hj32 => ?_)
  refine sm_join (pc := 4) (pc' := 29) (sbX9_value_29 P j32 hj32) (fun j29 hj29 => ?_)
  refine sm_if_eq (pc := 4) (tgt := 29) dX9_value_4 (by decide) ?_ ?_
  · skip
    exact hj29
  · skip
    refine sm_aload_n (pc := 7) (n := 0) dX9_value_7 rfl ?_
    refine sm_iload_n (pc := 8) (n := 2) dX9_value_8 rfl ?_
    refine sm_cV (pc := 9) (ci := 9) (n := 2) (mc := 0) (ms := 0) rfl m_X9_isPart (cr_X9_287 (X := X_X9_value) (fr := 3) (frc := 2) (pc := 9) (mc := 0) (ms := 0) rfl (by decide) dX9_value_9) ?_
    refine sm_if_eq (pc := 12) (tgt := 29) dX9_value_12 (by decide) ?_ ?_
    · skip
      exact hj29
    · skip
      refine sm_aload_n (pc := 15) (n := 0) dX9_value_15 rfl ?_
      refine gf_X9_115 (pc := 16) rfl dX9_value_16 ?_
      refine sm_bipush (pc := 19) dX9_value_19 zc_b_11 ?_
      refine sm_iload_n (pc := 21) (n := 1) dX9_value_21 rfl ?_
      refine sm_imul (pc := 22) dX9_value_22 ?_
      refine sm_iload_n (pc := 23) (n := 2) dX9_value_23 rfl ?_
      refine sm_iadd (pc := 24) dX9_value_24 ?_
      refine sm_laload (pc := 25) dX9_value_25 ?_
      refine sm_goto (pc := 26) (tgt := 32) dX9_value_26 (by decide) ?_
      exact hj32
noncomputable def f_X9_value {d : Nat} : List zV → zH d → zP d → Bool := zfn 3 b_X9_value
theorem m_X9_value {d : Nat} : zMet (d := d) X_X9_value yX9_value 3 f_X9_value := zmet_mk (X := X_X9_value) (by decide) rfl rfl s_X9_value

abbrev X_X9_ordinarySum : zM := (RX9, cX9_ordinarySum, 6, (some .long), "ordinarySum")
noncomputable def cX9_ordinarySum_44 {d : Nat} (P : zP d) (r5 : zK d) : zK d := (xild 5 (xbin zadd (xald1 0 (xi2l (xbinj zmulj (xbinj zaddj (xlst 3 (xinc 5 1 r5))))))))
set_option maxRecDepth 100000 in
set_option maxHeartbeats 4000000 in
theorem scX9_ordinarySum_44 {d : Nat} [zGh] (P : zP d) (r5 : zK d) (hr5 : zSim X_X9_ordinarySum 1 P 5 r5) : zSim X_X9_ordinarySum 1 P 44 (cX9_ordinarySum_44 P r5) := by
  unfold cX9_ordinarySum_44
  refine sm_iload (pc := 44) (n := 5) dX9_ordinarySum_44 ?_
  refine sm_iadd (pc := 46) dX9_ordinarySum_46 ?_
  refine sm_iaload (pc := 47) dX9_ordinarySum_47 ?_
  refine sm_i2l (pc := 48) dX9_ordinarySum_48 ?_
  refine sm_lmul (pc := 49) dX9_ordinarySum_49 ?_
  refine sm_ladd (pc := 50) dX9_ordinarySum_50 ?_
  refine sm_lstore_n (pc := 51) (n := 3) dX9_ordinarySum_51 rfl ?_
  refine sm_iinc (pc := 52) (n := 5) dX9_ordinarySum_52 zc_i_1 ?_
  refine sm_goto (pc := 55) (tgt := 5) dX9_ordinarySum_55 (by decide) ?_
  exact hr5
noncomputable def lX9_ordinarySum_5 {d : Nat} (P : zP d) (r5 : zK d) : zK d := (xild 5 (xald 0 (xgfI 25 2 (xcmp tge (xlld 3 (xlret P)) (xlld 3 (xald 0 (xgfR 25 43 (xpI 11 (xild 1 (xbin zmul (xild 5 (xbin zadd (xlal (xald 0 (xgfR 25 5 (xild 5 (xald1 0 (xi2l (xbinj zmulj (xald 0 (xgfR 25 14 (xpI 11 (xild 2 (xbin zmul (cX9_ordinarySum_44 P r5)))))))))))))))))))))))))
set_option maxRecDepth 100000 in
set_option maxHeartbeats 4000000 in
theorem slX9_ordinarySum_5 {d : Nat} [zGh] (P : zP d) (r5 : zK d) (hr5 : zSim X_X9_ordinarySum 1 P 5 r5) : zSim X_X9_ordinarySum 1 P 5 (lX9_ordinarySum_5 P r5) := by
  unfold lX9_ordinarySum_5
  refine sm_iload (pc := 5) (n := 5) dX9_ordinarySum_5 ?_
  refine sm_aload_n (pc := 7) (n := 0) dX9_ordinarySum_7 rfl ?_
  refine gf_X9_153 (pc := 8) rfl dX9_ordinarySum_8 ?_
  refine sm_icmp_ge (pc := 11) (tgt := 58) dX9_ordinarySum_11 (by decide) ?_ ?_
  · skip
    refine sm_lload_n (pc := 58) (n := 3) dX9_ordinarySum_58 rfl ?_
    exact sm_lreturn (pc := 59) dX9_ordinarySum_59 rfl
  · skip
    refine sm_lload_n (pc := 14) (n := 3) dX9_ordinarySum_14 rfl ?_
    refine sm_aload_n (pc := 15) (n := 0) dX9_ordinarySum_15 rfl ?_
    refine gf_X9_115 (pc := 16) rfl dX9_ordinarySum_16 ?_
    refine sm_bipush (pc := 19) dX9_ordinarySum_19 zc_b_11 ?_
    refine sm_iload_n (pc := 21) (n := 1) dX9_ordinarySum_21 rfl ?_
    refine sm_imul (pc := 22) dX9_ordinarySum_22 ?_
    refine sm_iload (pc := 23) (n := 5) dX9_ordinarySum_23 ?_
    refine sm_iadd (pc := 25) dX9_ordinarySum_25 ?_
    refine sm_laload (pc := 26) dX9_ordinarySum_26 ?_
    refine sm_aload_n (pc := 27) (n := 0) dX9_ordinarySum_27 rfl ?_
    refine gf_X9_16 (pc := 28) rfl dX9_ordinarySum_28 ?_
    refine sm_iload (pc := 31) (n := 5) dX9_ordinarySum_31 ?_
    refine sm_iaload (pc := 33) dX9_ordinarySum_33 ?_
    refine sm_i2l (pc := 34) dX9_ordinarySum_34 ?_
    refine sm_lmul (pc := 35) dX9_ordinarySum_35 ?_
    refine sm_aload_n (pc := 36) (n := 0) dX9_ordinarySum_36 rfl ?_
    refine gf_X9_38 (pc := 37) rfl dX9_ordinarySum_37 ?_
    refine sm_bipush (pc := 40) dX9_ordinarySum_40 zc_b_11 ?_
    refine sm_iload_n (pc := 42) (n := 2) dX9_ordinarySum_42 rfl ?_
    refine sm_imul (pc := 43) dX9_ordinarySum_43 ?_
    exact scX9_ordinarySum_44 P r5 hr5
noncomputable def b_X9_ordinarySum {d : Nat} (P : zP d) : zK d := (xpL 0 (xlst 3 (xpI 0 (xist 5 (xloop (fun r5 => (lX9_ordinarySum_5 P r5)) 100000)))))
set_option maxRecDepth 100000 in
set_option maxHeartbeats 4000000 in
theorem s_X9_ordinarySum {d : Nat} [zGh] (P : zP d) : zSim X_X9_ordinarySum 1 P 0 (b_X9_ordinarySum P) := by
  unfold b_X9_ordinarySum
  refine sm_lconst (pc := 0) dX9_ordinarySum_0 zc_l_0 ?_
  refine sm_lstore_n (pc := 1) (n := 3) dX9_ordinarySum_1 rfl ?_
  refine sm_iconst (pc := 2) dX9_ordinarySum_2 zc_i_0 ?_
  refine sm_istore (pc := 3) (n := 5) dX9_ordinarySum_3 ?_
  exact sm_loop (fun r5 hr5 => slX9_ordinarySum_5 P r5 hr5) _
noncomputable def f_X9_ordinarySum {d : Nat} : List zV → zH d → zP d → Bool := zfn 6 b_X9_ordinarySum
theorem m_X9_ordinarySum {d : Nat} : zMet (d := d) X_X9_ordinarySum yX9_ordinarySum 1 f_X9_ordinarySum := zmet_mk (X := X_X9_ordinarySum) (by decide) rfl rfl s_X9_ordinarySum

abbrev X_X9_modularSum : zM := (RX9, cX9_modularSum, 6, (some .long), "modularSum")
noncomputable def bX9_modularSum_62 {d : Nat} (P : zP d) (r5 : zK d) : zK d := (xinc 5 1 r5)
set_option maxRecDepth 100000 in
set_option maxHeartbeats 4000000 in
theorem sbX9_modularSum_62 {d : Nat} [zGh] (P : zP d) (r5 : zK d) (hr5 : zSim X_X9_modularSum 1 P 5 r5) : zSim X_X9_modularSum 1 P 62 (bX9_modularSum_62 P r5) := by
  unfold bX9_modularSum_62
  refine sm_iinc (pc := 62) (n := 5) dX9_modularSum_62 zc_i_1 ?_
  refine sm_goto (pc := 65) (tgt := 5) dX9_modularSum_65 (by decide) ?_
  exact hr5
noncomputable def cX9_modularSum_46 {d : Nat} (P : zP d) (j62 : zK d) : zK d := (xald 0 (xgfR 25 40 (xpI 11 (xild 2 (xbin zmul (xild 5 (xbin zadd (xald1 0 (xi2l (xbinj zmulj (xbinj zaddj (xlst 3 j62))))))))))))
set_option maxRecDepth 100000 in
set_option maxHeartbeats 4000000 in
theorem scX9_modularSum_46 {d : Nat} [zGh] (P : zP d) (j62 : zK d) (hj62 : zSim X_X9_modularSum 1 P 62 j62) : zSim X_X9_modularSum 1 P 46 (cX9_modularSum_46 P j62) := by
  unfold cX9_modularSum_46
  refine sm_aload_n (pc := 46) (n := 0) dX9_modularSum_46 rfl ?_
  refine gf_X9_105 (pc := 47) rfl dX9_modularSum_47 ?_
  refine sm_bipush (pc := 50) dX9_modularSum_50 zc_b_11 ?_
  refine sm_iload_n (pc := 52) (n := 2) dX9_modularSum_52 rfl ?_
  refine sm_imul (pc := 53) dX9_modularSum_53 ?_
  refine sm_iload (pc := 54) (n := 5) dX9_modularSum_54 ?_
  refine sm_iadd (pc := 56) dX9_modularSum_56 ?_
  refine sm_iaload (pc := 57) dX9_modularSum_57 ?_
  refine sm_i2l (pc := 58) dX9_modularSum_58 ?_
  refine sm_lmul (pc := 59) dX9_modularSum_59 ?_
  refine sm_ladd (pc := 60) dX9_modularSum_60 ?_
  refine sm_lstore_n (pc := 61) (n := 3) dX9_modularSum_61 rfl ?_
  exact hj62
noncomputable def lX9_modularSum_5 {d : Nat} (P : zP d) (r5 : zK d) : zK d := (xild 5 (xald 0 (xgfI 25 2 (xcmp tge (xlld 3 (xlret P)) (xald 0 (xgfR 25 8 (xild 5 (xald1 1 (xjoin (bX9_modularSum_62 P r5) (fun j62 => (xif0 t0eq j62 (xlld 3 (xald 0 (xgfR 25 43 (xpI 11 (xild 1 (xbin zmul (xild 5 (xbin zadd (xlal (xald 0 (xgfR 25 5 (xild 5 (xald1 0 (xi2l (xbinj zmulj (cX9_modularSum_46 P j62)))))))))))))))))))))))))))
set_option maxRecDepth 100000 in
set_option maxHeartbeats 4000000 in
theorem slX9_modularSum_5 {d : Nat} [zGh] (P : zP d) (r5 : zK d) (hr5 : zSim X_X9_modularSum 1 P 5 r5) : zSim X_X9_modularSum 1 P 5 (lX9_modularSum_5 P r5) := by
  unfold lX9_modularSum_5
  refine sm_iload (pc := 5) (n := 5) dX9_modularSum_5 ?_
  refine sm_aload_n (pc := 7) (n := 0) dX9_modularSum_7 rfl ?_
  refine gf_X9_153 (pc := 8) rfl dX9_modularSum_8 ?_
  refine sm_icmp_ge (pc := 11) (tgt := 68) dX9_modularSum_11 (by decide) ?_ ?_
  · skip
    refine sm_lload_n (pc := 68) (n := 3) dX9_modularSum_68 rfl ?_
    exact sm_lreturn (pc := 69) dX9_modularSum_69 rfl
  · skip
    refine sm_aload_n (pc := 14) (n := 0) dX9_modularSum_14 rfl ?_
    refine gf_X9_26 (pc := 15) rfl dX9_modularSum_15 ?_
    refine sm_iload (pc := 18) (n := 5) dX9_modularSum_18 ?_
    refine sm_baload (pc := 20) dX9_modularSum_20 ?_
    refine sm_join (pc := 21) (pc' := 62) (sbX9_modularSum_62 P r5 hr5) (fun j62 hj62 => ?_)
    refine sm_if_eq (pc := 21) (tgt := 62) dX9_modularSum_21 (by decide) ?_ ?_
    · skip
      exact hj62
    · skip
      refine sm_lload_n (pc := 24) (n := 3) dX9_modularSum_24 rfl ?_
      refine sm_aload_n (pc := 25) (n := 0) dX9_modularSum_25 rfl ?_
      refine gf_X9_115 (pc := 26) rfl dX9_modularSum_26 ?_
      refine sm_bipush (pc := 29) dX9_modularSum_29 zc_b_11 ?_
      refine sm_iload_n (pc := 31) (n := 1) dX9_modularSum_31 rfl ?_
      refine sm_imul (pc := 32) dX9_modularSum_32 ?_
      refine sm_iload (pc := 33) (n := 5) dX9_modularSum_33 ?_
      refine sm_iadd (pc := 35) dX9_modularSum_35 ?_
      refine sm_laload (pc := 36) dX9_modularSum_36 ?_
      refine sm_aload_n (pc := 37) (n := 0) dX9_modularSum_37 rfl ?_
      refine gf_X9_16 (pc := 38) rfl dX9_modularSum_38 ?_
      refine sm_iload (pc := 41) (n := 5) dX9_modularSum_41 ?_
      refine sm_iaload (pc := 43) dX9_modularSum_43 ?_
      refine sm_i2l (pc := 44) dX9_modularSum_44 ?_
      refine sm_lmul (pc := 45) dX9_modularSum_45 ?_
      exact scX9_modularSum_46 P j62 hj62
noncomputable def b_X9_modularSum {d : Nat} (P : zP d) : zK d := (xpL 0 (xlst 3 (xpI 0 (xist 5 (xloop (fun r5 => (lX9_modularSum_5 P r5)) 100000)))))
set_option maxRecDepth 100000 in
set_option maxHeartbeats 4000000 in
theorem s_X9_modularSum {d : Nat} [zGh] (P : zP d) : zSim X_X9_modularSum 1 P 0 (b_X9_modularSum P) := by
  unfold b_X9_modularSum
  refine sm_lconst (pc := 0) dX9_modularSum_0 zc_l_0 ?_
  refine sm_lstore_n (pc := 1) (n := 3) dX9_modularSum_1 rfl ?_
  refine sm_iconst (pc := 2) dX9_modularSum_2 zc_i_0 ?_
  refine sm_istore (pc := 3) (n := 5) dX9_modularSum_3 ?_
  exact sm_loop (fun r5 hr5 => slX9_modularSum_5 P r5 hr5) _
noncomputable def f_X9_modularSum {d : Nat} : List zV → zH d → zP d → Bool := zfn 6 b_X9_modularSum
theorem m_X9_modularSum {d : Nat} : zMet (d := d) X_X9_modularSum yX9_modularSum 1 f_X9_modularSum := zmet_mk (X := X_X9_modularSum) (by decide) rfl rfl s_X9_modularSum

abbrev X_X9_divisor : zM := (RX9, cX9_divisor, 10, (some .long), "divisor")
noncomputable def lX9_divisor_17 {d : Nat} (P : zP d) (r17 : zK d) : zK d := (xlld 6 (xpL 0 (xlcmp (xif0 t0eq (xlld 4 (xlret P)) (xlld 4 (xlld 6 (xbinjN zremj (xlst 8 (xlld 6 (xlst 4 (xlld 8 (xlst 6 r17))))))))))))
set_option maxRecDepth 100000 in
set_option maxHeartbeats 4000000 in
theorem slX9_divisor_17 {d : Nat} [zGh] (P : zP d) (r17 : zK d) (hr17 : zSim X_X9_divisor 1 P 17 r17) : zSim X_X9_divisor 1 P 17 (lX9_divisor_17 P r17) := by
  unfold lX9_divisor_17
  refine sm_lload (pc := 17) (n := 6) dX9_divisor_17 ?_
  refine sm_lconst (pc := 19) dX9_divisor_19 zc_l_0 ?_
  refine sm_lcmp (pc := 20) dX9_divisor_20 ?_
  refine sm_if_eq (pc := 21) (tgt := 42) dX9_divisor_21 (by decide) ?_ ?_
  · skip
    refine sm_lload (pc := 42) (n := 4) dX9_divisor_42 ?_
    exact sm_lreturn (pc := 44) dX9_divisor_44 rfl
  · skip
    refine sm_lload (pc := 24) (n := 4) dX9_divisor_24 ?_
    refine sm_lload (pc := 26) (n := 6) dX9_divisor_26 ?_
    refine sm_lrem (pc := 28) dX9_divisor_28 ?_
    refine sm_lstore (pc := 29) (n := 8) dX9_divisor_29 ?_
    refine sm_lload (pc := 31) (n := 6) dX9_divisor_31 ?_
    refine sm_lstore (pc := 33) (n := 4) dX9_divisor_33 ?_
    refine sm_lload (pc := 35) (n := 8) dX9_divisor_35 ?_
    refine sm_lstore (pc := 37) (n := 6) dX9_divisor_37 ?_
    refine sm_goto (pc := 39) (tgt := 17) dX9_divisor_39 (by decide) ?_
    exact hr17
noncomputable def bX9_divisor_12 {d : Nat} (P : zP d) : zK d := (xlst 4 (xlld 2 (xlst 6 (xloop (fun r17 => (lX9_divisor_17 P r17)) 100000))))
set_option maxRecDepth 100000 in
set_option maxHeartbeats 4000000 in
theorem sbX9_divisor_12 {d : Nat} [zGh] (P : zP d) : zSim X_X9_divisor 1 P 12 (bX9_divisor_12 P) := by
  unfold bX9_divisor_12
  refine sm_lstore (pc := 12) (n := 4) dX9_divisor_12 ?_
  refine sm_lload_n (pc := 14) (n := 2) dX9_divisor_14 rfl ?_
  refine sm_lstore (pc := 15) (n := 6) dX9_divisor_15 ?_
  exact sm_loop (fun r17 hr17 => slX9_divisor_17 P r17 hr17) _
noncomputable def b_X9_divisor {d : Nat} (P : zP d) : zK d := (xlld 0 (xpL 0 (xlcmp (xjoin (bX9_divisor_12 P) (fun j12 => (xif0 t0ge (xlld 0 j12) (xlld 0 (xunj znegj j12))))))))
set_option maxRecDepth 100000 in
set_option maxHeartbeats 4000000 in
theorem s_X9_divisor {d : Nat} [zGh] (P : zP d) : zSim X_X9_divisor 1 P 0 (b_X9_divisor P) := by
  unfold b_X9_divisor
  refine sm_lload_n (pc := 0) (n := 0) dX9_divisor_0 rfl ?_
  refine sm_lconst (pc := 1) dX9_divisor_1 zc_l_0 ?_
  refine sm_lcmp (pc := 2) dX9_divisor_2 ?_
  refine sm_join (pc := 3) (pc' := 12) (sbX9_divisor_12 P) (fun j12 hj12 => ?_)
  refine sm_if_ge (pc := 3) (tgt := 11) dX9_divisor_3 (by decide) ?_ ?_
  · skip
    refine sm_lload_n (pc := 11) (n := 0) dX9_divisor_11 rfl ?_
    exact hj12
  · skip
    refine sm_lload_n (pc := 6) (n := 0) dX9_divisor_6 rfl ?_
    refine sm_lneg (pc := 7) dX9_divisor_7 ?_
    refine sm_goto (pc := 8) (tgt := 12) dX9_divisor_8 (by decide) ?_
    exact hj12
noncomputable def f_X9_divisor {d : Nat} : List zV → zH d → zP d → Bool := zfn 10 b_X9_divisor
theorem m_X9_divisor {d : Nat} : zMet (d := d) X_X9_divisor yX9_divisor 1 f_X9_divisor := zmet_mk (X := X_X9_divisor) (by decide) rfl rfl s_X9_divisor

abbrev X_X9_parts : zM := (RX9, cX9_parts, 8, (some .long), "parts")
noncomputable def bX9_parts_43 {d : Nat} (P : zP d) : zK d := (xpL 9223372036854775808 (xlret P))
set_option maxRecDepth 100000 in
set_option maxHeartbeats 4000000 in
theorem sbX9_parts_43 {d : Nat} [zGh] (P : zP d) : zSim X_X9_parts 3 P 43 (bX9_parts_43 P) := by
  unfold bX9_parts_43
  refine sm_ldc2 (pc := 43) dX9_parts_43 wd_1311 zc_cl_m9223372036854775808 ?_
  exact sm_lreturn (pc := 46) dX9_parts_46 rfl
noncomputable def bX9_parts_103 {d : Nat} (P : zP d) : zK d := (xlret P)
set_option maxRecDepth 100000 in
set_option maxHeartbeats 4000000 in
theorem sbX9_parts_103 {d : Nat} [zGh] (P : zP d) : zSim X_X9_parts 3 P 103 (bX9_parts_103 P) := by
  unfold bX9_parts_103
  exact sm_lreturn (pc := 103) dX9_parts_103 rfl
noncomputable def bX9_parts_68 {d : Nat} (P : zP d) : zK d := (xlst 4 (xlld 4 (xald 0 (xgfI 25 12 (xi2l (xcS 2 0 0 f_X9_divisor (xlst 6 (xild 3 (xpI 2 (xjoin (bX9_parts_103 P) (fun j103 => (xcmp tge (xald 0 (xgfI 25 12 (xi2l (xlld 6 (xbinjN zdivj j103))))) (xlld 4 (xlld 6 (xbinjN zdivj j103)))))))))))))))
set_option maxRecDepth 100000 in
set_option maxHeartbeats 4000000 in
theorem sbX9_parts_68 {d : Nat} [zGh] (P : zP d) : zSim X_X9_parts 3 P 68 (bX9_parts_68 P) := by
  unfold bX9_parts_68
  refine sm_lstore (pc := 68) (n := 4) dX9_parts_68 ?_
  refine sm_lload (pc := 70) (n := 4) dX9_parts_70 ?_
  refine sm_aload_n (pc := 72) (n := 0) dX9_parts_72 rfl ?_
  refine gf_X9_166 (pc := 73) rfl dX9_parts_73 ?_
  refine sm_i2l (pc := 76) dX9_parts_76 ?_
  refine sm_cS (pc := 77) (n := 2) (mc := 0) (ms := 0) m_X9_divisor (cr_X9_335 (X := X_X9_parts) (fr := 3) (frc := 1) (pc := 77) (mc := 0) (ms := 0) rfl (by decide) dX9_parts_77) ?_
  refine sm_lstore (pc := 80) (n := 6) dX9_parts_80 ?_
  refine sm_iload_n (pc := 82) (n := 3) dX9_parts_82 rfl ?_
  refine sm_iconst (pc := 83) dX9_parts_83 zc_i_2 ?_
  refine sm_join (pc := 84) (pc' := 103) (sbX9_parts_103 P) (fun j103 hj103 => ?_)
  refine sm_icmp_ge (pc := 84) (tgt := 95) dX9_parts_84 (by decide) ?_ ?_
  · skip
    refine sm_aload_n (pc := 95) (n := 0) dX9_parts_95 rfl ?_
    refine gf_X9_166 (pc := 96) rfl dX9_parts_96 ?_
    refine sm_i2l (pc := 99) dX9_parts_99 ?_
    refine sm_lload (pc := 100) (n := 6) dX9_parts_100 ?_
    refine sm_ldiv (pc := 102) dX9_parts_102 ?_
    exact hj103
  · skip
    refine sm_lload (pc := 87) (n := 4) dX9_parts_87 ?_
    refine sm_lload (pc := 89) (n := 6) dX9_parts_89 ?_
    refine sm_ldiv (pc := 91) dX9_parts_91 ?_
    refine sm_goto (pc := 92) (tgt := 103) dX9_parts_92 (by decide) ?_
    exact hj103
noncomputable def bX9_parts_47 {d : Nat} (P : zP d) : zK d := (xild 3 (xpI 2 (xbinN zrem (xjoin (bX9_parts_68 P) (fun j68 => (xif0 t0eq (xald 0 (xild 1 (xild 2 (xcV 25 3 0 0 f_X9_ordinarySum j68)))) (xald 0 (xild 1 (xild 2 (xcV 25 3 0 0 f_X9_modularSum j68))))))))))
set_option maxRecDepth 100000 in
set_option maxHeartbeats 4000000 in
theorem sbX9_parts_47 {d : Nat} [zGh] (P : zP d) : zSim X_X9_parts 3 P 47 (bX9_parts_47 P) := by
  unfold bX9_parts_47
  refine sm_iload_n (pc := 47) (n := 3) dX9_parts_47 rfl ?_
  refine sm_iconst (pc := 48) dX9_parts_48 zc_i_2 ?_
  refine sm_irem (pc := 49) dX9_parts_49 ?_
  refine sm_join (pc := 50) (pc' := 68) (sbX9_parts_68 P) (fun j68 hj68 => ?_)
  refine sm_if_ne (pc := 50) (tgt := 62) dX9_parts_50 (by decide) ?_ ?_
  · skip
    refine sm_aload_n (pc := 62) (n := 0) dX9_parts_62 rfl ?_
    refine sm_iload_n (pc := 63) (n := 1) dX9_parts_63 rfl ?_
    refine sm_iload_n (pc := 64) (n := 2) dX9_parts_64 rfl ?_
    refine sm_cV (pc := 65) (ci := 9) (n := 3) (mc := 0) (ms := 0) rfl m_X9_modularSum (cr_X9_332 (X := X_X9_parts) (fr := 3) (frc := 1) (pc := 65) (mc := 0) (ms := 0) rfl (by decide) dX9_parts_65) ?_
    exact hj68
  · skip
    refine sm_aload_n (pc := 53) (n := 0) dX9_parts_53 rfl ?_
    refine sm_iload_n (pc := 54) (n := 1) dX9_parts_54 rfl ?_
    refine sm_iload_n (pc := 55) (n := 2) dX9_parts_55 rfl ?_
    refine sm_cV (pc := 56) (ci := 9) (n := 3) (mc := 0) (ms := 0) rfl m_X9_ordinarySum (cr_X9_328 (X := X_X9_parts) (fr := 3) (frc := 1) (pc := 56) (mc := 0) (ms := 0) rfl (by decide) dX9_parts_56) ?_
    refine sm_goto (pc := 59) (tgt := 68) dX9_parts_59 (by decide) ?_
    exact hj68
noncomputable def b_X9_parts {d : Nat} (P : zP d) : zK d := (xild 1 (xcS 1 0 0 f_X9_isSlot (xjoin (bX9_parts_43 P) (fun j43 => (xif0 t0eq j43 (xald 0 (xild 2 (xcV 25 2 0 0 f_X9_isPart (xif0 t0eq j43 (xild 3 (xi2l (xpL 0 (xpL 3 (xcS 3 0 0 f_X9_isIn (xif0 t0eq j43 (xild 3 (xpI 2 (xbinN zrem (xpI 1 (xjoin (bX9_parts_47 P) (fun j47 => (xcmp Nat.beq (xald 0 (xgfR 25 7 (xild 2 (xald1 1 (xif0 t0eq j43 j47))))) j47))))))))))))))))))))))
set_option maxRecDepth 100000 in
set_option maxHeartbeats 4000000 in
theorem s_X9_parts {d : Nat} [zGh] (P : zP d) : zSim X_X9_parts 3 P 0 (b_X9_parts P) := by
  unfold b_X9_parts
  refine sm_iload_n (pc := 0) (n := 1) dX9_parts_0 rfl ?_
  refine sm_cS (pc := 1) (n := 1) (mc := 0) (ms := 0) m_X9_isSlot (cr_X9_319 (X := X_X9_parts) (fr := 3) (frc := 2) (pc := 1) (mc := 0) (ms := 0) rfl (by decide) dX9_parts_1) ?_
  refine sm_join (pc := 4) (pc' := 43) (sbX9_parts_43 P) (fun j43 hj43 => ?_)
  refine sm_if_eq (pc := 4) (tgt := 43) dX9_parts_4 (by decide) ?_ ?_
  · skip
    exact hj43
  · skip
    refine sm_aload_n (pc := 7) (n := 0) dX9_parts_7 rfl ?_
    refine sm_iload_n (pc := 8) (n := 2) dX9_parts_8 rfl ?_
    refine sm_cV (pc := 9) (ci := 9) (n := 2) (mc := 0) (ms := 0) rfl m_X9_isPart (cr_X9_287 (X := X_X9_parts) (fr := 3) (frc := 2) (pc := 9) (mc := 0) (ms := 0) rfl (by decide) dX9_parts_9) ?_
    refine sm_if_eq (pc := 12) (tgt := 43) dX9_parts_12 (by decide) ?_ ?_
    · skip
      exact hj43
    · skip
      refine sm_iload_n (pc := 15) (n := 3) dX9_parts_15 rfl ?_
      refine sm_i2l (pc := 16) dX9_parts_16 ?_
      refine sm_lconst (pc := 17) dX9_parts_17 zc_l_0 ?_
      refine sm_ldc2 (pc := 18) dX9_parts_18 wd_1316 zc_cl_3 ?_
      refine sm_cS (pc := 21) (n := 3) (mc := 0) (ms := 0) m_X9_isIn (cr_X9_283 (X := X_X9_parts) (fr := 3) (frc := 1) (pc := 21) (mc := 0) (ms := 0) rfl (by decide) dX9_parts_21) ?_
      refine sm_if_eq (pc := 24) (tgt := 43) dX9_parts_24 (by decide) ?_ ?_
      · skip
        exact hj43
      · skip
        refine sm_iload_n (pc := 27) (n := 3) dX9_parts_27 rfl ?_
        refine sm_iconst (pc := 28) dX9_parts_28 zc_i_2 ?_
        refine sm_irem (pc := 29) dX9_parts_29 ?_
        refine sm_iconst (pc := 30) dX9_parts_30 zc_i_1 ?_
        refine sm_join (pc := 31) (pc' := 47) (sbX9_parts_47 P) (fun j47 hj47 => ?_)
        refine sm_icmp_ne (pc := 31) (tgt := 47) dX9_parts_31 (by decide) ?_ ?_
        · skip
          exact hj47
        · skip
          refine sm_aload_n (pc := 34) (n := 0) dX9_parts_34 rfl ?_
          refine gf_X9_22 (pc := 35) rfl dX9_parts_35 ?_
          refine sm_iload_n (pc := 38) (n := 2) dX9_parts_38 rfl ?_
          refine sm_baload (pc := 39) dX9_parts_39 ?_
          refine sm_if_ne (pc := 40) (tgt := 47) dX9_parts_40 (by decide) ?_ ?_
          · skip
            exact hj47
          · skip
            exact hj43
noncomputable def f_X9_parts {d : Nat} : List zV → zH d → zP d → Bool := zfn 8 b_X9_parts
theorem m_X9_parts {d : Nat} : zMet (d := d) X_X9_parts yX9_parts 3 f_X9_parts := zmet_mk (X := X_X9_parts) (by decide) rfl rfl s_X9_parts

abbrev X_X9_inner : zM := (RX9, cX9_inner, 6, (some .long), "inner")
noncomputable def bX9_inner_14 {d : Nat} (P : zP d) : zK d := (xpL 18446744073709551615 (xlret P))
set_option maxRecDepth 100000 in
set_option maxHeartbeats 4000000 in
theorem sbX9_inner_14 {d : Nat} [zGh] (P : zP d) : zSim X_X9_inner 3 P 14 (bX9_inner_14 P) := by
  unfold bX9_inner_14
  refine sm_ldc2 (pc := 14) dX9_inner_14 wd_1332 zc_cl_m1 ?_
  exact sm_lreturn (pc := 17) dX9_inner_17 rfl
noncomputable def cX9_inner_62 {d : Nat} (P : zP d) (r23 : zK d) : zK d := (xild 5 (xald1 0 (xi2l (xbinj zmulj (xbinj zaddj (xlst 3 (xinc 5 1 r23)))))))
set_option maxRecDepth 100000 in
set_option maxHeartbeats 4000000 in
theorem scX9_inner_62 {d : Nat} [zGh] (P : zP d) (r23 : zK d) (hr23 : zSim X_X9_inner 3 P 23 r23) : zSim X_X9_inner 3 P 62 (cX9_inner_62 P r23) := by
  unfold cX9_inner_62
  refine sm_iload (pc := 62) (n := 5) dX9_inner_62 ?_
  refine sm_iaload (pc := 64) dX9_inner_64 ?_
  refine sm_i2l (pc := 65) dX9_inner_65 ?_
  refine sm_lmul (pc := 66) dX9_inner_66 ?_
  refine sm_ladd (pc := 67) dX9_inner_67 ?_
  refine sm_lstore_n (pc := 68) (n := 3) dX9_inner_68 rfl ?_
  refine sm_iinc (pc := 69) (n := 5) dX9_inner_69 zc_i_1 ?_
  refine sm_goto (pc := 72) (tgt := 23) dX9_inner_72 (by decide) ?_
  exact hr23
noncomputable def lX9_inner_23 {d : Nat} (P : zP d) (r23 : zK d) : zK d := (xild 5 (xald 0 (xgfI 25 2 (xcmp tge (xlld 3 (xlret P)) (xlld 3 (xald 0 (xgfR 25 43 (xpI 11 (xild 1 (xbin zmul (xild 5 (xbin zadd (xlal (xald 0 (xgfR 25 43 (xpI 11 (xild 2 (xbin zmul (xild 5 (xbin zadd (xlal (xbinj zmulj (xald 0 (xgfR 25 5 (cX9_inner_62 P r23)))))))))))))))))))))))))
set_option maxRecDepth 100000 in
set_option maxHeartbeats 4000000 in
theorem slX9_inner_23 {d : Nat} [zGh] (P : zP d) (r23 : zK d) (hr23 : zSim X_X9_inner 3 P 23 r23) : zSim X_X9_inner 3 P 23 (lX9_inner_23 P r23) := by
  unfold lX9_inner_23
  refine sm_iload (pc := 23) (n := 5) dX9_inner_23 ?_
  refine sm_aload_n (pc := 25) (n := 0) dX9_inner_25 rfl ?_
  refine gf_X9_153 (pc := 26) rfl dX9_inner_26 ?_
  refine sm_icmp_ge (pc := 29) (tgt := 75) dX9_inner_29 (by decide) ?_ ?_
  · skip
    refine sm_lload_n (pc := 75) (n := 3) dX9_inner_75 rfl ?_
    exact sm_lreturn (pc := 76) dX9_inner_76 rfl
  · skip
    refine sm_lload_n (pc := 32) (n := 3) dX9_inner_32 rfl ?_
    refine sm_aload_n (pc := 33) (n := 0) dX9_inner_33 rfl ?_
    refine gf_X9_115 (pc := 34) rfl dX9_inner_34 ?_
    refine sm_bipush (pc := 37) dX9_inner_37 zc_b_11 ?_
    refine sm_iload_n (pc := 39) (n := 1) dX9_inner_39 rfl ?_
    refine sm_imul (pc := 40) dX9_inner_40 ?_
    refine sm_iload (pc := 41) (n := 5) dX9_inner_41 ?_
    refine sm_iadd (pc := 43) dX9_inner_43 ?_
    refine sm_laload (pc := 44) dX9_inner_44 ?_
    refine sm_aload_n (pc := 45) (n := 0) dX9_inner_45 rfl ?_
    refine gf_X9_115 (pc := 46) rfl dX9_inner_46 ?_
    refine sm_bipush (pc := 49) dX9_inner_49 zc_b_11 ?_
    refine sm_iload_n (pc := 51) (n := 2) dX9_inner_51 rfl ?_
    refine sm_imul (pc := 52) dX9_inner_52 ?_
    refine sm_iload (pc := 53) (n := 5) dX9_inner_53 ?_
    refine sm_iadd (pc := 55) dX9_inner_55 ?_
    refine sm_laload (pc := 56) dX9_inner_56 ?_
    refine sm_lmul (pc := 57) dX9_inner_57 ?_
    refine sm_aload_n (pc := 58) (n := 0) dX9_inner_58 rfl ?_
    refine gf_X9_16 (pc := 59) rfl dX9_inner_59 ?_
    exact scX9_inner_62 P r23 hr23
noncomputable def b_X9_inner {d : Nat} (P : zP d) : zK d := (xild 1 (xcS 1 0 0 f_X9_isSlot (xjoin (bX9_inner_14 P) (fun j14 => (xif0 t0eq j14 (xild 2 (xcS 1 0 0 f_X9_isSlot (xif0 t0eq j14 (xpL 0 (xlst 3 (xpI 0 (xist 5 (xloop (fun r23 => (lX9_inner_23 P r23)) 100000)))))))))))))
set_option maxRecDepth 100000 in
set_option maxHeartbeats 4000000 in
theorem s_X9_inner {d : Nat} [zGh] (P : zP d) : zSim X_X9_inner 3 P 0 (b_X9_inner P) := by
  unfold b_X9_inner
  refine sm_iload_n (pc := 0) (n := 1) dX9_inner_0 rfl ?_
  refine sm_cS (pc := 1) (n := 1) (mc := 0) (ms := 0) m_X9_isSlot (cr_X9_319 (X := X_X9_inner) (fr := 3) (frc := 2) (pc := 1) (mc := 0) (ms := 0) rfl (by decide) dX9_inner_1) ?_
  refine sm_join (pc := 4) (pc' := 14) (sbX9_inner_14 P) (fun j14 hj14 => ?_)
  refine sm_if_eq (pc := 4) (tgt := 14) dX9_inner_4 (by decide) ?_ ?_
  · skip
    exact hj14
  · skip
    refine sm_iload_n (pc := 7) (n := 2) dX9_inner_7 rfl ?_
    refine sm_cS (pc := 8) (n := 1) (mc := 0) (ms := 0) m_X9_isSlot (cr_X9_319 (X := X_X9_inner) (fr := 3) (frc := 2) (pc := 8) (mc := 0) (ms := 0) rfl (by decide) dX9_inner_8) ?_
    refine sm_if_ne (pc := 11) (tgt := 18) dX9_inner_11 (by decide) ?_ ?_
    · skip
      refine sm_lconst (pc := 18) dX9_inner_18 zc_l_0 ?_
      refine sm_lstore_n (pc := 19) (n := 3) dX9_inner_19 rfl ?_
      refine sm_iconst (pc := 20) dX9_inner_20 zc_i_0 ?_
      refine sm_istore (pc := 21) (n := 5) dX9_inner_21 ?_
      exact sm_loop (fun r23 hr23 => slX9_inner_23 P r23 hr23) _
    · skip
      exact hj14
noncomputable def f_X9_inner {d : Nat} : List zV → zH d → zP d → Bool := zfn 6 b_X9_inner
theorem m_X9_inner {d : Nat} : zMet (d := d) X_X9_inner yX9_inner 3 f_X9_inner := zmet_mk (X := X_X9_inner) (by decide) rfl rfl s_X9_inner

abbrev X_X9_areWhole : zM := (RX9, cX9_areWhole, 7, (some .boolean), "areWhole")
noncomputable def bX9_areWhole_78 {d : Nat} (P : zP d) (r3 : zK d) : zK d := (xinc 4 1 r3)
set_option maxRecDepth 100000 in
set_option maxHeartbeats 4000000 in
theorem sbX9_areWhole_78 {d : Nat} [zGh] (P : zP d) (r3 : zK d) (hr3 : zSim X_X9_areWhole 2 P 3 r3) : zSim X_X9_areWhole 2 P 78 (bX9_areWhole_78 P r3) := by
  unfold bX9_areWhole_78
  refine sm_iinc (pc := 78) (n := 4) dX9_areWhole_78 zc_i_1 ?_
  refine sm_goto (pc := 81) (tgt := 3) dX9_areWhole_81 (by decide) ?_
  exact hr3
noncomputable def bX9_areWhole_76 {d : Nat} (P : zP d) : zK d := (xpI 0 (xzret P))
set_option maxRecDepth 100000 in
set_option maxHeartbeats 4000000 in
theorem sbX9_areWhole_76 {d : Nat} [zGh] (P : zP d) : zSim X_X9_areWhole 2 P 76 (bX9_areWhole_76 P) := by
  unfold bX9_areWhole_76
  refine sm_iconst (pc := 76) dX9_areWhole_76 zc_i_0 ?_
  exact sm_zreturn (pc := 77) dX9_areWhole_77 rfl
noncomputable def bX9_areWhole_50 {d : Nat} (P : zP d) (j78 : zK d) : zK d := (xlst 5 (xlld 5 (xald 0 (xgfI 25 12 (xi2l (xbinjN zremj (xpL 0 (xlcmp (xjoin (bX9_areWhole_76 P) (fun j76 => (xif0 t0eq (xild 3 (xif0 t0eq j78 (xlld 5 (xpL 0 (xlcmp (xif0 t0ge j78 j76)))))) j76)))))))))))
set_option maxRecDepth 100000 in
set_option maxHeartbeats 4000000 in
theorem sbX9_areWhole_50 {d : Nat} [zGh] (P : zP d) (j78 : zK d) (hj78 : zSim X_X9_areWhole 2 P 78 j78) : zSim X_X9_areWhole 2 P 50 (bX9_areWhole_50 P j78) := by
  unfold bX9_areWhole_50
  refine sm_lstore (pc := 50) (n := 5) dX9_areWhole_50 ?_
  refine sm_lload (pc := 52) (n := 5) dX9_areWhole_52 ?_
  refine sm_aload_n (pc := 54) (n := 0) dX9_areWhole_54 rfl ?_
  refine gf_X9_166 (pc := 55) rfl dX9_areWhole_55 ?_
  refine sm_i2l (pc := 58) dX9_areWhole_58 ?_
  refine sm_lrem (pc := 59) dX9_areWhole_59 ?_
  refine sm_lconst (pc := 60) dX9_areWhole_60 zc_l_0 ?_
  refine sm_lcmp (pc := 61) dX9_areWhole_61 ?_
  refine sm_join (pc := 62) (pc' := 76) (sbX9_areWhole_76 P) (fun j76 hj76 => ?_)
  refine sm_if_ne (pc := 62) (tgt := 76) dX9_areWhole_62 (by decide) ?_ ?_
  · skip
    exact hj76
  · skip
    refine sm_iload_n (pc := 65) (n := 3) dX9_areWhole_65 rfl ?_
    refine sm_if_eq (pc := 66) (tgt := 78) dX9_areWhole_66 (by decide) ?_ ?_
    · skip
      exact hj78
    · skip
      refine sm_lload (pc := 69) (n := 5) dX9_areWhole_69 ?_
      refine sm_lconst (pc := 71) dX9_areWhole_71 zc_l_0 ?_
      refine sm_lcmp (pc := 72) dX9_areWhole_72 ?_
      refine sm_if_ge (pc := 73) (tgt := 78) dX9_areWhole_73 (by decide) ?_ ?_
      · skip
        exact hj78
      · skip
        exact hj76
noncomputable def bX9_areWhole_29 {d : Nat} (P : zP d) (j78 : zK d) : zK d := (xild 2 (xjoin (bX9_areWhole_50 P j78) (fun j50 => (xif0 t0eq (xald 0 (xild 1 (xild 4 (xcV 25 3 0 0 f_X9_ordinarySum j50)))) (xald 0 (xild 1 (xild 4 (xcV 25 3 0 0 f_X9_modularSum j50))))))))
set_option maxRecDepth 100000 in
set_option maxHeartbeats 4000000 in
theorem sbX9_areWhole_29 {d : Nat} [zGh] (P : zP d) (j78 : zK d) (hj78 : zSim X_X9_areWhole 2 P 78 j78) : zSim X_X9_areWhole 2 P 29 (bX9_areWhole_29 P j78) := by
  unfold bX9_areWhole_29
  refine sm_iload_n (pc := 29) (n := 2) dX9_areWhole_29 rfl ?_
  refine sm_join (pc := 30) (pc' := 50) (sbX9_areWhole_50 P j78 hj78) (fun j50 hj50 => ?_)
  refine sm_if_eq (pc := 30) (tgt := 43) dX9_areWhole_30 (by decide) ?_ ?_
  · skip
    refine sm_aload_n (pc := 43) (n := 0) dX9_areWhole_43 rfl ?_
    refine sm_iload_n (pc := 44) (n := 1) dX9_areWhole_44 rfl ?_
    refine sm_iload (pc := 45) (n := 4) dX9_areWhole_45 ?_
    refine sm_cV (pc := 47) (ci := 9) (n := 3) (mc := 0) (ms := 0) rfl m_X9_ordinarySum (cr_X9_328 (X := X_X9_areWhole) (fr := 2) (frc := 1) (pc := 47) (mc := 0) (ms := 0) rfl (by decide) dX9_areWhole_47) ?_
    exact hj50
  · skip
    refine sm_aload_n (pc := 33) (n := 0) dX9_areWhole_33 rfl ?_
    refine sm_iload_n (pc := 34) (n := 1) dX9_areWhole_34 rfl ?_
    refine sm_iload (pc := 35) (n := 4) dX9_areWhole_35 ?_
    refine sm_cV (pc := 37) (ci := 9) (n := 3) (mc := 0) (ms := 0) rfl m_X9_modularSum (cr_X9_332 (X := X_X9_areWhole) (fr := 2) (frc := 1) (pc := 37) (mc := 0) (ms := 0) rfl (by decide) dX9_areWhole_37) ?_
    refine sm_goto (pc := 40) (tgt := 50) dX9_areWhole_40 (by decide) ?_
    exact hj50
noncomputable def lX9_areWhole_3 {d : Nat} (P : zP d) (r3 : zK d) : zK d := (xild 4 (xald 0 (xgfI 25 2 (xcmp tge (xpI 1 (xzret P)) (xild 2 (xjoin (bX9_areWhole_78 P r3) (fun j78 => (xjoin (bX9_areWhole_29 P j78) (fun j29 => (xif0 t0eq j29 (xald 0 (xgfR 25 7 (xild 4 (xald1 1 (xif0 t0eq j78 j29)))))))))))))))
set_option maxRecDepth 100000 in
set_option maxHeartbeats 4000000 in
theorem slX9_areWhole_3 {d : Nat} [zGh] (P : zP d) (r3 : zK d) (hr3 : zSim X_X9_areWhole 2 P 3 r3) : zSim X_X9_areWhole 2 P 3 (lX9_areWhole_3 P r3) := by
  unfold lX9_areWhole_3
  refine sm_iload (pc := 3) (n := 4) dX9_areWhole_3 ?_
  refine sm_aload_n (pc := 5) (n := 0) dX9_areWhole_5 rfl ?_
  refine gf_X9_153 (pc := 6) rfl dX9_areWhole_6 ?_
  refine sm_icmp_ge (pc := 9) (tgt := 84) dX9_areWhole_9 (by decide) ?_ ?_
  · skip
    refine sm_iconst (pc := 84) dX9_areWhole_84 zc_i_1 ?_
    exact sm_zreturn (pc := 85) dX9_areWhole_85 rfl
  · skip
    refine sm_iload_n (pc := 12) (n := 2) dX9_areWhole_12 rfl ?_
    refine sm_join (pc := 13) (pc' := 78) (sbX9_areWhole_78 P r3 hr3) (fun j78 hj78 => ?_)
    refine sm_join (pc := 13) (pc' := 29) (sbX9_areWhole_29 P j78 hj78) (fun j29 hj29 => ?_)
    refine sm_if_eq (pc := 13) (tgt := 29) dX9_areWhole_13 (by decide) ?_ ?_
    · skip
      exact hj29
    · skip
      refine sm_aload_n (pc := 16) (n := 0) dX9_areWhole_16 rfl ?_
      refine gf_X9_22 (pc := 17) rfl dX9_areWhole_17 ?_
      refine sm_iload (pc := 20) (n := 4) dX9_areWhole_20 ?_
      refine sm_baload (pc := 22) dX9_areWhole_22 ?_
      refine sm_if_ne (pc := 23) (tgt := 29) dX9_areWhole_23 (by decide) ?_ ?_
      · skip
        exact hj29
      · skip
        refine sm_goto (pc := 26) (tgt := 78) dX9_areWhole_26 (by decide) ?_
        exact hj78
noncomputable def b_X9_areWhole {d : Nat} (P : zP d) : zK d := (xpI 0 (xist 4 (xloop (fun r3 => (lX9_areWhole_3 P r3)) 100000)))
set_option maxRecDepth 100000 in
set_option maxHeartbeats 4000000 in
theorem s_X9_areWhole {d : Nat} [zGh] (P : zP d) : zSim X_X9_areWhole 2 P 0 (b_X9_areWhole P) := by
  unfold b_X9_areWhole
  refine sm_iconst (pc := 0) dX9_areWhole_0 zc_i_0 ?_
  refine sm_istore (pc := 1) (n := 4) dX9_areWhole_1 ?_
  exact sm_loop (fun r3 hr3 => slX9_areWhole_3 P r3 hr3) _
noncomputable def f_X9_areWhole {d : Nat} : List zV → zH d → zP d → Bool := zfn 7 b_X9_areWhole
theorem m_X9_areWhole {d : Nat} : zMet (d := d) X_X9_areWhole yX9_areWhole 2 f_X9_areWhole := zmet_mk (X := X_X9_areWhole) (by decide) rfl rfl s_X9_areWhole

abbrev X_X9_kind : zM := (RX9, cX9_kind, 5, (some .int), "kind")
noncomputable def bX9_kind_19 {d : Nat} (P : zP d) : zK d := (xpI 4294967295 (xiret P))
set_option maxRecDepth 100000 in
set_option maxHeartbeats 4000000 in
theorem sbX9_kind_19 {d : Nat} [zGh] (P : zP d) : zSim X_X9_kind 3 P 19 (bX9_kind_19 P) := by
  unfold bX9_kind_19
  refine sm_iconst (pc := 19) dX9_kind_19 zc_i_m1 ?_
  exact sm_ireturn (pc := 20) dX9_kind_20 rfl
noncomputable def bX9_kind_105 {d : Nat} (P : zP d) (r60 : zK d) : zK d := (xist 3 (xinc 4 1 r60))
set_option maxRecDepth 100000 in
set_option maxHeartbeats 4000000 in
theorem sbX9_kind_105 {d : Nat} [zGh] (P : zP d) (r60 : zK d) (hr60 : zSim X_X9_kind 3 P 60 r60) : zSim X_X9_kind 3 P 105 (bX9_kind_105 P r60) := by
  unfold bX9_kind_105
  refine sm_istore_n (pc := 105) (n := 3) dX9_kind_105 rfl ?_
  refine sm_iinc (pc := 106) (n := 4) dX9_kind_106 zc_i_1 ?_
  refine sm_goto (pc := 109) (tgt := 60) dX9_kind_109 (by decide) ?_
  exact hr60
noncomputable def bX9_kind_104 {d : Nat} (P : zP d) (j105 : zK d) : zK d := (xpI 0 j105)
set_option maxRecDepth 100000 in
set_option maxHeartbeats 4000000 in
theorem sbX9_kind_104 {d : Nat} [zGh] (P : zP d) (j105 : zK d) (hj105 : zSim X_X9_kind 3 P 105 j105) : zSim X_X9_kind 3 P 104 (bX9_kind_104 P j105) := by
  unfold bX9_kind_104
  refine sm_iconst (pc := 104) dX9_kind_104 zc_i_0 ?_
  exact hj105
noncomputable def bX9_kind_100 {d : Nat} (P : zP d) (j105 : zK d) : zK d := (xpI 1 j105)
set_option maxRecDepth 100000 in
set_option maxHeartbeats 4000000 in
theorem sbX9_kind_100 {d : Nat} [zGh] (P : zP d) (j105 : zK d) (hj105 : zSim X_X9_kind 3 P 105 j105) : zSim X_X9_kind 3 P 100 (bX9_kind_100 P j105) := by
  unfold bX9_kind_100
  refine sm_iconst (pc := 100) dX9_kind_100 zc_i_1 ?_
  refine sm_goto (pc := 101) (tgt := 105) dX9_kind_101 (by decide) ?_
  exact hj105
noncomputable def lX9_kind_60 {d : Nat} (P : zP d) (r60 : zK d) : zK d := (xild 4 (xald 0 (xgfI 25 2 (xcmp tge (xild 3 (xcS 1 0 0 f_X9_one (xiret P))) (xild 3 (xjoin (bX9_kind_105 P r60) (fun j105 => (xjoin (bX9_kind_104 P j105) (fun j104 => (xif0 t0eq j104 (xald 0 (xgfR 25 8 (xild 4 (xald1 1 (xjoin (bX9_kind_100 P j105) (fun j100 => (xif0 t0eq (xald 0 (xgfR 25 43 (xpI 11 (xild 1 (xbin zmul (xild 4 (xbin zadd (xlal (xpL 0 (xlcmp (xif0 t0eq j100 j104))))))))))) j100)))))))))))))))))
set_option maxRecDepth 100000 in
set_option maxHeartbeats 4000000 in
theorem slX9_kind_60 {d : Nat} [zGh] (P : zP d) (r60 : zK d) (hr60 : zSim X_X9_kind 3 P 60 r60) : zSim X_X9_kind 3 P 60 (lX9_kind_60 P r60) := by
  unfold lX9_kind_60
  refine sm_iload (pc := 60) (n := 4) dX9_kind_60 ?_
  refine sm_aload_n (pc := 62) (n := 0) dX9_kind_62 rfl ?_
  refine gf_X9_153 (pc := 63) rfl dX9_kind_63 ?_
  refine sm_icmp_ge (pc := 66) (tgt := 112) dX9_kind_66 (by decide) ?_ ?_
  · skip
    refine sm_iload_n (pc := 112) (n := 3) dX9_kind_112 rfl ?_
    refine sm_cS (pc := 113) (n := 1) (mc := 0) (ms := 0) m_X9_one (cr_X9_187 (X := X_X9_kind) (fr := 3) (frc := 1) (pc := 113) (mc := 0) (ms := 0) rfl (by decide) dX9_kind_113) ?_
    exact sm_ireturn (pc := 116) dX9_kind_116 rfl
  · skip
    refine sm_iload_n (pc := 69) (n := 3) dX9_kind_69 rfl ?_
    refine sm_join (pc := 70) (pc' := 105) (sbX9_kind_105 P r60 hr60) (fun j105 hj105 => ?_)
    refine sm_join (pc := 70) (pc' := 104) (sbX9_kind_104 P j105 hj105) (fun j104 hj104 => ?_)
    refine sm_if_eq (pc := 70) (tgt := 104) dX9_kind_70 (by decide) ?_ ?_
    · skip
      exact hj104
    · skip
      refine sm_aload_n (pc := 73) (n := 0) dX9_kind_73 rfl ?_
      refine gf_X9_26 (pc := 74) rfl dX9_kind_74 ?_
      refine sm_iload (pc := 77) (n := 4) dX9_kind_77 ?_
      refine sm_baload (pc := 79) dX9_kind_79 ?_
      refine sm_join (pc := 80) (pc' := 100) (sbX9_kind_100 P j105 hj105) (fun j100 hj100 => ?_)
      refine sm_if_ne (pc := 80) (tgt := 100) dX9_kind_80 (by decide) ?_ ?_
      · skip
        exact hj100
      · skip
        refine sm_aload_n (pc := 83) (n := 0) dX9_kind_83 rfl ?_
        refine gf_X9_115 (pc := 84) rfl dX9_kind_84 ?_
        refine sm_bipush (pc := 87) dX9_kind_87 zc_b_11 ?_
        refine sm_iload_n (pc := 89) (n := 1) dX9_kind_89 rfl ?_
        refine sm_imul (pc := 90) dX9_kind_90 ?_
        refine sm_iload (pc := 91) (n := 4) dX9_kind_91 ?_
        refine sm_iadd (pc := 93) dX9_kind_93 ?_
        refine sm_laload (pc := 94) dX9_kind_94 ?_
        refine sm_lconst (pc := 95) dX9_kind_95 zc_l_0 ?_
        refine sm_lcmp (pc := 96) dX9_kind_96 ?_
        refine sm_if_ne (pc := 97) (tgt := 104) dX9_kind_97 (by decide) ?_ ?_
        · skip
          exact hj104
        · skip
          exact hj100
noncomputable def bX9_kind_48 {d : Nat} (P : zP d) : zK d := (xcV 25 4 0 0 f_X9_areWhole (xcS 1 0 0 f_X9_one (xiret P)))
set_option maxRecDepth 100000 in
set_option maxHeartbeats 4000000 in
theorem sbX9_kind_48 {d : Nat} [zGh] (P : zP d) : zSim X_X9_kind 3 P 48 (bX9_kind_48 P) := by
  unfold bX9_kind_48
  refine sm_cV (pc := 48) (ci := 9) (n := 4) (mc := 0) (ms := 0) rfl m_X9_areWhole (cr_X9_343 (X := X_X9_kind) (fr := 3) (frc := 2) (pc := 48) (mc := 0) (ms := 0) rfl (by decide) dX9_kind_48) ?_
  refine sm_cS (pc := 51) (n := 1) (mc := 0) (ms := 0) m_X9_one (cr_X9_187 (X := X_X9_kind) (fr := 3) (frc := 1) (pc := 51) (mc := 0) (ms := 0) rfl (by decide) dX9_kind_51) ?_
  exact sm_ireturn (pc := 54) dX9_kind_54 rfl
noncomputable def bX9_kind_37 {d : Nat} (P : zP d) : zK d := (xild 2 (xpI 2 (xbinN zrem (xjoin (bX9_kind_48 P) (fun j48 => (xif0 t0eq (xpI 1 j48) (xpI 0 j48)))))))
set_option maxRecDepth 100000 in
set_option maxHeartbeats 4000000 in
theorem sbX9_kind_37 {d : Nat} [zGh] (P : zP d) : zSim X_X9_kind 3 P 37 (bX9_kind_37 P) := by
  unfold bX9_kind_37
  refine sm_iload_n (pc := 37) (n := 2) dX9_kind_37 rfl ?_
  refine sm_iconst (pc := 38) dX9_kind_38 zc_i_2 ?_
  refine sm_irem (pc := 39) dX9_kind_39 ?_
  refine sm_join (pc := 40) (pc' := 48) (sbX9_kind_48 P) (fun j48 hj48 => ?_)
  refine sm_if_ne (pc := 40) (tgt := 47) dX9_kind_40 (by decide) ?_ ?_
  · skip
    refine sm_iconst (pc := 47) dX9_kind_47 zc_i_0 ?_
    exact hj48
  · skip
    refine sm_iconst (pc := 43) dX9_kind_43 zc_i_1 ?_
    refine sm_goto (pc := 44) (tgt := 48) dX9_kind_44 (by decide) ?_
    exact hj48
noncomputable def b_X9_kind {d : Nat} (P : zP d) : zK d := (xild 1 (xcS 1 0 0 f_X9_isSlot (xjoin (bX9_kind_19 P) (fun j19 => (xif0 t0eq j19 (xild 2 (xi2l (xpL 0 (xpL 4 (xcS 3 0 0 f_X9_isIn (xif0 t0eq j19 (xild 2 (xif0 t0le (xpI 1 (xist 3 (xpI 0 (xist 4 (xloop (fun r60 => (lX9_kind_60 P r60)) 100000))))) (xald 0 (xild 1 (xild 2 (xpI 2 (xjoin (bX9_kind_37 P) (fun j37 => (xcmp tle (xpI 0 j37) (xpI 1 j37)))))))))))))))))))))
set_option maxRecDepth 100000 in
set_option maxHeartbeats 4000000 in
theorem s_X9_kind {d : Nat} [zGh] (P : zP d) : zSim X_X9_kind 3 P 0 (b_X9_kind P) := by
  unfold b_X9_kind
  refine sm_iload_n (pc := 0) (n := 1) dX9_kind_0 rfl ?_
  refine sm_cS (pc := 1) (n := 1) (mc := 0) (ms := 0) m_X9_isSlot (cr_X9_319 (X := X_X9_kind) (fr := 3) (frc := 2) (pc := 1) (mc := 0) (ms := 0) rfl (by decide) dX9_kind_1) ?_
  refine sm_join (pc := 4) (pc' := 19) (sbX9_kind_19 P) (fun j19 hj19 => ?_)
  refine sm_if_eq (pc := 4) (tgt := 19) dX9_kind_4 (by decide) ?_ ?_
  · skip
    exact hj19
  · skip
    refine sm_iload_n (pc := 7) (n := 2) dX9_kind_7 rfl ?_
    refine sm_i2l (pc := 8) dX9_kind_8 ?_
    refine sm_lconst (pc := 9) dX9_kind_9 zc_l_0 ?_
    refine sm_ldc2 (pc := 10) dX9_kind_10 wd_1337 zc_cl_4 ?_
    refine sm_cS (pc := 13) (n := 3) (mc := 0) (ms := 0) m_X9_isIn (cr_X9_283 (X := X_X9_kind) (fr := 3) (frc := 1) (pc := 13) (mc := 0) (ms := 0) rfl (by decide) dX9_kind_13) ?_
    refine sm_if_ne (pc := 16) (tgt := 21) dX9_kind_16 (by decide) ?_ ?_
    · skip
      refine sm_iload_n (pc := 21) (n := 2) dX9_kind_21 rfl ?_
      refine sm_if_le (pc := 22) (tgt := 55) dX9_kind_22 (by decide) ?_ ?_
      · skip
        refine sm_iconst (pc := 55) dX9_kind_55 zc_i_1 ?_
        refine sm_istore_n (pc := 56) (n := 3) dX9_kind_56 rfl ?_
        refine sm_iconst (pc := 57) dX9_kind_57 zc_i_0 ?_
        refine sm_istore (pc := 58) (n := 4) dX9_kind_58 ?_
        exact sm_loop (fun r60 hr60 => slX9_kind_60 P r60 hr60) _
      · skip
        refine sm_aload_n (pc := 25) (n := 0) dX9_kind_25 rfl ?_
        refine sm_iload_n (pc := 26) (n := 1) dX9_kind_26 rfl ?_
        refine sm_iload_n (pc := 27) (n := 2) dX9_kind_27 rfl ?_
        refine sm_iconst (pc := 28) dX9_kind_28 zc_i_2 ?_
        refine sm_join (pc := 29) (pc' := 37) (sbX9_kind_37 P) (fun j37 hj37 => ?_)
        refine sm_icmp_le (pc := 29) (tgt := 36) dX9_kind_29 (by decide) ?_ ?_
        · skip
          refine sm_iconst (pc := 36) dX9_kind_36 zc_i_0 ?_
          exact hj37
        · skip
          refine sm_iconst (pc := 32) dX9_kind_32 zc_i_1 ?_
          refine sm_goto (pc := 33) (tgt := 37) dX9_kind_33 (by decide) ?_
          exact hj37
    · skip
      exact hj19
noncomputable def f_X9_kind {d : Nat} : List zV → zH d → zP d → Bool := zfn 5 b_X9_kind
theorem m_X9_kind {d : Nat} : zMet (d := d) X_X9_kind yX9_kind 3 f_X9_kind := zmet_mk (X := X_X9_kind) (by decide) rfl rfl s_X9_kind

abbrev X_X9_cut : zM := (RX9, cX9_cut, 8, (some .int), "cut")
noncomputable def bX9_cut_40 {d : Nat} (P : zP d) : zK d := (xpI 4294967295 (xiret P))
set_option maxRecDepth 100000 in
set_option maxHeartbeats 4000000 in
theorem sbX9_cut_40 {d : Nat} [zGh] (P : zP d) : zSim X_X9_cut 3 P 40 (bX9_cut_40 P) := by
  unfold bX9_cut_40
  refine sm_iconst (pc := 40) dX9_cut_40 zc_i_m1 ?_
  exact sm_ireturn (pc := 41) dX9_cut_41 rfl
noncomputable def lX9_cut_163 {d : Nat} (P : zP d) (r163 : zK d) : zK d := (xild 4 (xald 0 (xgfI 25 2 (xcmp tge (xpI 0 (xiret P)) (xald 0 (xgfR 25 43 (xpI 11 (xild 3 (xbin zmul (xild 4 (xbin zadd (xald 0 (xgfR 25 44 (xild 4 (xlal (xlas (xinc 4 1 r163)))))))))))))))))
set_option maxRecDepth 100000 in
set_option maxHeartbeats 4000000 in
theorem slX9_cut_163 {d : Nat} [zGh] (P : zP d) (r163 : zK d) (hr163 : zSim X_X9_cut 3 P 163 r163) : zSim X_X9_cut 3 P 163 (lX9_cut_163 P r163) := by
  unfold lX9_cut_163
  refine sm_iload (pc := 163) (n := 4) dX9_cut_163 ?_
  refine sm_aload_n (pc := 165) (n := 0) dX9_cut_165 rfl ?_
  refine gf_X9_153 (pc := 166) rfl dX9_cut_166 ?_
  refine sm_icmp_ge (pc := 169) (tgt := 197) dX9_cut_169 (by decide) ?_ ?_
  · skip
    refine sm_iconst (pc := 197) dX9_cut_197 zc_i_0 ?_
    exact sm_ireturn (pc := 198) dX9_cut_198 rfl
  · skip
    refine sm_aload_n (pc := 172) (n := 0) dX9_cut_172 rfl ?_
    refine gf_X9_115 (pc := 173) rfl dX9_cut_173 ?_
    refine sm_bipush (pc := 176) dX9_cut_176 zc_b_11 ?_
    refine sm_iload_n (pc := 178) (n := 3) dX9_cut_178 rfl ?_
    refine sm_imul (pc := 179) dX9_cut_179 ?_
    refine sm_iload (pc := 180) (n := 4) dX9_cut_180 ?_
    refine sm_iadd (pc := 182) dX9_cut_182 ?_
    refine sm_aload_n (pc := 183) (n := 0) dX9_cut_183 rfl ?_
    refine gf_X9_118 (pc := 184) rfl dX9_cut_184 ?_
    refine sm_iload (pc := 187) (n := 4) dX9_cut_187 ?_
    refine sm_laload (pc := 189) dX9_cut_189 ?_
    refine sm_lastore (pc := 190) dX9_cut_190 ?_
    refine sm_iinc (pc := 191) (n := 4) dX9_cut_191 zc_i_1 ?_
    refine sm_goto (pc := 194) (tgt := 163) dX9_cut_194 (by decide) ?_
    exact hr163
noncomputable def bX9_cut_154 {d : Nat} (P : zP d) (r71 : zK d) : zK d := (xinc 4 1 r71)
set_option maxRecDepth 100000 in
set_option maxHeartbeats 4000000 in
theorem sbX9_cut_154 {d : Nat} [zGh] (P : zP d) (r71 : zK d) (hr71 : zSim X_X9_cut 3 P 71 r71) : zSim X_X9_cut 3 P 154 (bX9_cut_154 P r71) := by
  unfold bX9_cut_154
  refine sm_iinc (pc := 154) (n := 4) dX9_cut_154 zc_i_1 ?_
  refine sm_goto (pc := 157) (tgt := 71) dX9_cut_157 (by decide) ?_
  exact hr71
noncomputable def lX9_cut_112 {d : Nat} (P : zP d) (j154 : zK d) (r112 : zK d) : zK d := (xild 7 (xald 0 (xgfI 25 2 (xcmp tge j154 (xald 0 (xgfR 25 44 (xild 7 (xdup2 (xlal (xlld 5 (xald 0 (xgfR 25 14 (xpI 11 (xild 4 (xbin zmul (xild 7 (xbin zadd (xald1 0 (xi2l (xbinj zmulj (xbinj zaddj (xlas (xinc 7 1 r112)))))))))))))))))))))))
set_option maxRecDepth 100000 in
set_option maxHeartbeats 4000000 in
theorem slX9_cut_112 {d : Nat} [zGh] (P : zP d) (j154 : zK d) (r112 : zK d) (hj154 : zSim X_X9_cut 3 P 154 j154) (hr112 : zSim X_X9_cut 3 P 112 r112) : zSim X_X9_cut 3 P 112 (lX9_cut_112 P j154 r112) := by
  unfold lX9_cut_112
  refine sm_iload (pc := 112) (n := 7) dX9_cut_112 ?_
  refine sm_aload_n (pc := 114) (n := 0) dX9_cut_114 rfl ?_
  refine gf_X9_153 (pc := 115) rfl dX9_cut_115 ?_
  refine sm_icmp_ge (pc := 118) (tgt := 154) dX9_cut_118 (by decide) ?_ ?_
  · skip
    exact hj154
  · skip
    refine sm_aload_n (pc := 121) (n := 0) dX9_cut_121 rfl ?_
    refine gf_X9_118 (pc := 122) rfl dX9_cut_122 ?_
    refine sm_iload (pc := 125) (n := 7) dX9_cut_125 ?_
    refine sm_dup2 (pc := 127) dX9_cut_127 ?_
    refine sm_laload (pc := 128) dX9_cut_128 ?_
    refine sm_lload (pc := 129) (n := 5) dX9_cut_129 ?_
    refine sm_aload_n (pc := 131) (n := 0) dX9_cut_131 rfl ?_
    refine gf_X9_38 (pc := 132) rfl dX9_cut_132 ?_
    refine sm_bipush (pc := 135) dX9_cut_135 zc_b_11 ?_
    refine sm_iload (pc := 137) (n := 4) dX9_cut_137 ?_
    refine sm_imul (pc := 139) dX9_cut_139 ?_
    refine sm_iload (pc := 140) (n := 7) dX9_cut_140 ?_
    refine sm_iadd (pc := 142) dX9_cut_142 ?_
    refine sm_iaload (pc := 143) dX9_cut_143 ?_
    refine sm_i2l (pc := 144) dX9_cut_144 ?_
    refine sm_lmul (pc := 145) dX9_cut_145 ?_
    refine sm_ladd (pc := 146) dX9_cut_146 ?_
    refine sm_lastore (pc := 147) dX9_cut_147 ?_
    refine sm_iinc (pc := 148) (n := 7) dX9_cut_148 zc_i_1 ?_
    refine sm_goto (pc := 151) (tgt := 112) dX9_cut_151 (by decide) ?_
    exact hr112
noncomputable def lX9_cut_71 {d : Nat} (P : zP d) (r71 : zK d) : zK d := (xild 4 (xald 0 (xgfI 25 2 (xcmp tge (xpI 0 (xist 4 (xloop (fun r163 => (lX9_cut_163 P r163)) 100000))) (xald 0 (xgfR 25 17 (xild 4 (xald1 0 (xild 2 (xjoin (bX9_cut_154 P r71) (fun j154 => (xcmp Nat.beq (xald 0 (xild 1 (xild 4 (xcV 25 3 0 0 f_X9_ordinarySum (xald 0 (xgfI 25 12 (xi2l (xbinjN zdivj (xlst 5 (xpI 0 (xist 7 (xloop (fun r112 => (lX9_cut_112 P j154 r112)) 100000)))))))))))) j154))))))))))))
set_option maxRecDepth 100000 in
set_option maxHeartbeats 4000000 in
theorem slX9_cut_71 {d : Nat} [zGh] (P : zP d) (r71 : zK d) (hr71 : zSim X_X9_cut 3 P 71 r71) : zSim X_X9_cut 3 P 71 (lX9_cut_71 P r71) := by
  unfold lX9_cut_71
  refine sm_iload (pc := 71) (n := 4) dX9_cut_71 ?_
  refine sm_aload_n (pc := 73) (n := 0) dX9_cut_73 rfl ?_
  refine gf_X9_153 (pc := 74) rfl dX9_cut_74 ?_
  refine sm_icmp_ge (pc := 77) (tgt := 160) dX9_cut_77 (by decide) ?_ ?_
  · skip
    refine sm_iconst (pc := 160) dX9_cut_160 zc_i_0 ?_
    refine sm_istore (pc := 161) (n := 4) dX9_cut_161 ?_
    exact sm_loop (fun r163 hr163 => slX9_cut_163 P r163 hr163) _
  · skip
    refine sm_aload_n (pc := 80) (n := 0) dX9_cut_80 rfl ?_
    refine gf_X9_47 (pc := 81) rfl dX9_cut_81 ?_
    refine sm_iload (pc := 84) (n := 4) dX9_cut_84 ?_
    refine sm_iaload (pc := 86) dX9_cut_86 ?_
    refine sm_iload_n (pc := 87) (n := 2) dX9_cut_87 rfl ?_
    refine sm_join (pc := 88) (pc' := 154) (sbX9_cut_154 P r71 hr71) (fun j154 hj154 => ?_)
    refine sm_icmp_eq (pc := 88) (tgt := 94) dX9_cut_88 (by decide) ?_ ?_
    · skip
      refine sm_aload_n (pc := 94) (n := 0) dX9_cut_94 rfl ?_
      refine sm_iload_n (pc := 95) (n := 1) dX9_cut_95 rfl ?_
      refine sm_iload (pc := 96) (n := 4) dX9_cut_96 ?_
      refine sm_cV (pc := 98) (ci := 9) (n := 3) (mc := 0) (ms := 0) rfl m_X9_ordinarySum (cr_X9_328 (X := X_X9_cut) (fr := 3) (frc := 1) (pc := 98) (mc := 0) (ms := 0) rfl (by decide) dX9_cut_98) ?_
      refine sm_aload_n (pc := 101) (n := 0) dX9_cut_101 rfl ?_
      refine gf_X9_166 (pc := 102) rfl dX9_cut_102 ?_
      refine sm_i2l (pc := 105) dX9_cut_105 ?_
      refine sm_ldiv (pc := 106) dX9_cut_106 ?_
      refine sm_lstore (pc := 107) (n := 5) dX9_cut_107 ?_
      refine sm_iconst (pc := 109) dX9_cut_109 zc_i_0 ?_
      refine sm_istore (pc := 110) (n := 7) dX9_cut_110 ?_
      exact sm_loop (fun r112 hr112 => slX9_cut_112 P j154 r112 hj154 hr112) _
    · skip
      refine sm_goto (pc := 91) (tgt := 154) dX9_cut_91 (by decide) ?_
      exact hj154
noncomputable def lX9_cut_45 {d : Nat} (P : zP d) (r45 : zK d) : zK d := (xild 4 (xald 0 (xgfI 25 2 (xcmp tge (xpI 0 (xist 4 (xloop (fun r71 => (lX9_cut_71 P r71)) 100000))) (xald 0 (xgfR 25 44 (xild 4 (xpL 0 (xlas (xinc 4 1 r45))))))))))
set_option maxRecDepth 100000 in
set_option maxHeartbeats 4000000 in
theorem slX9_cut_45 {d : Nat} [zGh] (P : zP d) (r45 : zK d) (hr45 : zSim X_X9_cut 3 P 45 r45) : zSim X_X9_cut 3 P 45 (lX9_cut_45 P r45) := by
  unfold lX9_cut_45
  refine sm_iload (pc := 45) (n := 4) dX9_cut_45 ?_
  refine sm_aload_n (pc := 47) (n := 0) dX9_cut_47 rfl ?_
  refine gf_X9_153 (pc := 48) rfl dX9_cut_48 ?_
  refine sm_icmp_ge (pc := 51) (tgt := 68) dX9_cut_51 (by decide) ?_ ?_
  · skip
    refine sm_iconst (pc := 68) dX9_cut_68 zc_i_0 ?_
    refine sm_istore (pc := 69) (n := 4) dX9_cut_69 ?_
    exact sm_loop (fun r71 hr71 => slX9_cut_71 P r71 hr71) _
  · skip
    refine sm_aload_n (pc := 54) (n := 0) dX9_cut_54 rfl ?_
    refine gf_X9_118 (pc := 55) rfl dX9_cut_55 ?_
    refine sm_iload (pc := 58) (n := 4) dX9_cut_58 ?_
    refine sm_lconst (pc := 60) dX9_cut_60 zc_l_0 ?_
    refine sm_lastore (pc := 61) dX9_cut_61 ?_
    refine sm_iinc (pc := 62) (n := 4) dX9_cut_62 zc_i_1 ?_
    refine sm_goto (pc := 65) (tgt := 45) dX9_cut_65 (by decide) ?_
    exact hr45
noncomputable def b_X9_cut {d : Nat} (P : zP d) : zK d := (xild 1 (xcS 1 0 0 f_X9_isSlot (xjoin (bX9_cut_40 P) (fun j40 => (xif0 t0eq j40 (xild 3 (xcS 1 0 0 f_X9_isSlot (xif0 t0eq j40 (xild 2 (xi2l (xpL 0 (xald 0 (xgfI 25 18 (xpI 1 (xbin zsub (xi2l (xcS 3 0 0 f_X9_isIn (xif0 t0eq j40 (xald 0 (xild 1 (xpI 0 (xpI 0 (xcV 25 4 0 0 f_X9_areWhole (xif0 t0eq j40 (xpI 0 (xist 4 (xloop (fun r45 => (lX9_cut_45 P r45)) 100000)))))))))))))))))))))))))))
set_option maxRecDepth 100000 in
set_option maxHeartbeats 4000000 in
theorem s_X9_cut {d : Nat} [zGh] (P : zP d) : zSim X_X9_cut 3 P 0 (b_X9_cut P) := by
  unfold b_X9_cut
  refine sm_iload_n (pc := 0) (n := 1) dX9_cut_0 rfl ?_
  refine sm_cS (pc := 1) (n := 1) (mc := 0) (ms := 0) m_X9_isSlot (cr_X9_319 (X := X_X9_cut) (fr := 3) (frc := 2) (pc := 1) (mc := 0) (ms := 0) rfl (by decide) dX9_cut_1) ?_
  refine sm_join (pc := 4) (pc' := 40) (sbX9_cut_40 P) (fun j40 hj40 => ?_)
  refine sm_if_eq (pc := 4) (tgt := 40) dX9_cut_4 (by decide) ?_ ?_
  · skip
    exact hj40
  · skip
    refine sm_iload_n (pc := 7) (n := 3) dX9_cut_7 rfl ?_
    refine sm_cS (pc := 8) (n := 1) (mc := 0) (ms := 0) m_X9_isSlot (cr_X9_319 (X := X_X9_cut) (fr := 3) (frc := 2) (pc := 8) (mc := 0) (ms := 0) rfl (by decide) dX9_cut_8) ?_
    refine sm_if_eq (pc := 11) (tgt := 40) dX9_cut_11 (by decide) ?_ ?_
    · skip
      exact hj40
    · skip
      refine sm_iload_n (pc := 14) (n := 2) dX9_cut_14 rfl ?_
      refine sm_i2l (pc := 15) dX9_cut_15 ?_
      refine sm_lconst (pc := 16) dX9_cut_16 zc_l_0 ?_
      refine sm_aload_n (pc := 17) (n := 0) dX9_cut_17 rfl ?_
      refine gf_X9_199 (pc := 18) rfl dX9_cut_18 ?_
      refine sm_iconst (pc := 21) dX9_cut_21 zc_i_1 ?_
      refine sm_isub (pc := 22) dX9_cut_22 ?_
      refine sm_i2l (pc := 23) dX9_cut_23 ?_
      refine sm_cS (pc := 24) (n := 3) (mc := 0) (ms := 0) m_X9_isIn (cr_X9_283 (X := X_X9_cut) (fr := 3) (frc := 1) (pc := 24) (mc := 0) (ms := 0) rfl (by decide) dX9_cut_24) ?_
      refine sm_if_eq (pc := 27) (tgt := 40) dX9_cut_27 (by decide) ?_ ?_
      · skip
        exact hj40
      · skip
        refine sm_aload_n (pc := 30) (n := 0) dX9_cut_30 rfl ?_
        refine sm_iload_n (pc := 31) (n := 1) dX9_cut_31 rfl ?_
        refine sm_iconst (pc := 32) dX9_cut_32 zc_i_0 ?_
        refine sm_iconst (pc := 33) dX9_cut_33 zc_i_0 ?_
        refine sm_cV (pc := 34) (ci := 9) (n := 4) (mc := 0) (ms := 0) rfl m_X9_areWhole (cr_X9_343 (X := X_X9_cut) (fr := 3) (frc := 2) (pc := 34) (mc := 0) (ms := 0) rfl (by decide) dX9_cut_34) ?_
        refine sm_if_ne (pc := 37) (tgt := 42) dX9_cut_37 (by decide) ?_ ?_
        · skip
          refine sm_iconst (pc := 42) dX9_cut_42 zc_i_0 ?_
          refine sm_istore (pc := 43) (n := 4) dX9_cut_43 ?_
          exact sm_loop (fun r45 hr45 => slX9_cut_45 P r45 hr45) _
        · skip
          exact hj40
noncomputable def f_X9_cut {d : Nat} : List zV → zH d → zP d → Bool := zfn 8 b_X9_cut
theorem m_X9_cut {d : Nat} : zMet (d := d) X_X9_cut yX9_cut 3 f_X9_cut := zmet_mk (X := X_X9_cut) (by decide) rfl rfl s_X9_cut

abbrev X_X9_four : zM := (RX9, cX9_four, 3, none, "four")
noncomputable def lX9_four_3 {d : Nat} (P : zP d) (r3 : zK d) : zK d := (xild 2 (xif0 t0ge (xald 0 (xgfR 25 45 (xald 0 (xgfI 25 46 (xild 1 (xild 2 (xbin zshr (xpI 255 (xbin zand (xast1 0 (fun v => v) (xald 0 (xdup (xgfI 25 46 (xpI 1 (xbin zadd (xpfI 25 46 (xinc 2 4294967288 r3))))))))))))))))) (xvret P)))
set_option maxRecDepth 100000 in
set_option maxHeartbeats 4000000 in
theorem slX9_four_3 {d : Nat} [zGh] (P : zP d) (r3 : zK d) (hr3 : zSim X_X9_four 1 P 3 r3) : zSim X_X9_four 1 P 3 (lX9_four_3 P r3) := by
  unfold lX9_four_3
  refine sm_iload_n (pc := 3) (n := 2) dX9_four_3 rfl ?_
  refine sm_if_lt (pc := 4) (tgt := 39) dX9_four_4 (by decide) ?_ ?_
  · skip
    exact sm_vreturn (pc := 39) dX9_four_39 rfl
  · skip
    refine sm_aload_n (pc := 7) (n := 0) dX9_four_7 rfl ?_
    refine gf_X9_121 (pc := 8) rfl dX9_four_8 ?_
    refine sm_aload_n (pc := 11) (n := 0) dX9_four_11 rfl ?_
    refine gf_X9_347 (pc := 12) rfl dX9_four_12 ?_
    refine sm_iload_n (pc := 15) (n := 1) dX9_four_15 rfl ?_
    refine sm_iload_n (pc := 16) (n := 2) dX9_four_16 rfl ?_
    refine sm_ishr (pc := 17) dX9_four_17 ?_
    refine sm_sipush (pc := 18) dX9_four_18 zc_s_255 ?_
    refine sm_iand (pc := 21) dX9_four_21 ?_
    refine sm_iastore (pc := 22) dX9_four_22 ?_
    refine sm_aload_n (pc := 23) (n := 0) dX9_four_23 rfl ?_
    refine sm_dup (pc := 24) dX9_four_24 ?_
    refine gf_X9_347 (pc := 25) rfl dX9_four_25 ?_
    refine sm_iconst (pc := 28) dX9_four_28 zc_i_1 ?_
    refine sm_iadd (pc := 29) dX9_four_29 ?_
    refine pf_X9_347 (pc := 30) rfl dX9_four_30 ?_
    refine sm_iinc (pc := 33) (n := 2) dX9_four_33 zc_i_m8 ?_
    refine sm_goto (pc := 36) (tgt := 3) dX9_four_36 (by decide) ?_
    exact hr3
noncomputable def b_X9_four {d : Nat} (P : zP d) : zK d := (xpI 24 (xist 2 (xloop (fun r3 => (lX9_four_3 P r3)) 100000)))
set_option maxRecDepth 100000 in
set_option maxHeartbeats 4000000 in
theorem s_X9_four {d : Nat} [zGh] (P : zP d) : zSim X_X9_four 1 P 0 (b_X9_four P) := by
  unfold b_X9_four
  refine sm_bipush (pc := 0) dX9_four_0 zc_b_24 ?_
  refine sm_istore_n (pc := 2) (n := 2) dX9_four_2 rfl ?_
  exact sm_loop (fun r3 hr3 => slX9_four_3 P r3 hr3) _
noncomputable def f_X9_four {d : Nat} : List zV → zH d → zP d → Bool := zfn 3 b_X9_four
theorem m_X9_four {d : Nat} : zMet (d := d) X_X9_four yX9_four 1 f_X9_four := zmet_mk (X := X_X9_four) (by decide) rfl rfl s_X9_four

abbrev X_X9_feed : zM := (RX9, cX9_feed, 6, (some .int), "feed")
noncomputable def b_X9_feed {d : Nat} (P : zP d) : zK d := (xald 0 (xgfI 25 46 (xpI 20 (xbin zadd (xpI 200 (xcmp tle (xald 0 (xild 1 (xcV 25 2 0 0 f_X9_four (xald 0 (xild 2 (xcV 25 2 0 0 f_X9_four (xald 0 (xild 3 (xcV 25 2 0 0 f_X9_four (xald 0 (xild 4 (xcV 25 2 0 0 f_X9_four (xald 0 (xild 5 (xcV 25 2 0 0 f_X9_four (xald 0 (xgfI 25 46 (xiret P)))))))))))))))))) (xpI 4294967295 (xiret P))))))))
set_option maxRecDepth 100000 in
set_option maxHeartbeats 4000000 in
theorem s_X9_feed {d : Nat} [zGh] (P : zP d) : zSim X_X9_feed 2 P 0 (b_X9_feed P) := by
  unfold b_X9_feed
  refine sm_aload_n (pc := 0) (n := 0) dX9_feed_0 rfl ?_
  refine gf_X9_347 (pc := 1) rfl dX9_feed_1 ?_
  refine sm_bipush (pc := 4) dX9_feed_4 zc_b_20 ?_
  refine sm_iadd (pc := 6) dX9_feed_6 ?_
  refine sm_sipush (pc := 7) dX9_feed_7 zc_s_200 ?_
  refine sm_icmp_le (pc := 10) (tgt := 15) dX9_feed_10 (by decide) ?_ ?_
  · skip
    refine sm_aload_n (pc := 15) (n := 0) dX9_feed_15 rfl ?_
    refine sm_iload_n (pc := 16) (n := 1) dX9_feed_16 rfl ?_
    refine sm_cV (pc := 17) (ci := 9) (n := 2) (mc := 0) (ms := 0) rfl m_X9_four (cr_X9_350 (X := X_X9_feed) (fr := 2) (frc := 1) (pc := 17) (mc := 0) (ms := 0) rfl (by decide) dX9_feed_17) ?_
    refine sm_aload_n (pc := 20) (n := 0) dX9_feed_20 rfl ?_
    refine sm_iload_n (pc := 21) (n := 2) dX9_feed_21 rfl ?_
    refine sm_cV (pc := 22) (ci := 9) (n := 2) (mc := 0) (ms := 0) rfl m_X9_four (cr_X9_350 (X := X_X9_feed) (fr := 2) (frc := 1) (pc := 22) (mc := 0) (ms := 0) rfl (by decide) dX9_feed_22) ?_
    refine sm_aload_n (pc := 25) (n := 0) dX9_feed_25 rfl ?_
    refine sm_iload_n (pc := 26) (n := 3) dX9_feed_26 rfl ?_
    refine sm_cV (pc := 27) (ci := 9) (n := 2) (mc := 0) (ms := 0) rfl m_X9_four (cr_X9_350 (X := X_X9_feed) (fr := 2) (frc := 1) (pc := 27) (mc := 0) (ms := 0) rfl (by decide) dX9_feed_27) ?_
    refine sm_aload_n (pc := 30) (n := 0) dX9_feed_30 rfl ?_
    refine sm_iload (pc := 31) (n := 4) dX9_feed_31 ?_
    refine sm_cV (pc := 33) (ci := 9) (n := 2) (mc := 0) (ms := 0) rfl m_X9_four (cr_X9_350 (X := X_X9_feed) (fr := 2) (frc := 1) (pc := 33) (mc := 0) (ms := 0) rfl (by decide) dX9_feed_33) ?_
    refine sm_aload_n (pc := 36) (n := 0) dX9_feed_36 rfl ?_
    refine sm_iload (pc := 37) (n := 5) dX9_feed_37 ?_
    refine sm_cV (pc := 39) (ci := 9) (n := 2) (mc := 0) (ms := 0) rfl m_X9_four (cr_X9_350 (X := X_X9_feed) (fr := 2) (frc := 1) (pc := 39) (mc := 0) (ms := 0) rfl (by decide) dX9_feed_39) ?_
    refine sm_aload_n (pc := 42) (n := 0) dX9_feed_42 rfl ?_
    refine gf_X9_347 (pc := 43) rfl dX9_feed_43 ?_
    exact sm_ireturn (pc := 46) dX9_feed_46 rfl
  · skip
    refine sm_iconst (pc := 13) dX9_feed_13 zc_i_m1 ?_
    exact sm_ireturn (pc := 14) dX9_feed_14 rfl
noncomputable def f_X9_feed {d : Nat} : List zV → zH d → zP d → Bool := zfn 6 b_X9_feed
theorem m_X9_feed {d : Nat} : zMet (d := d) X_X9_feed yX9_feed 2 f_X9_feed := zmet_mk (X := X_X9_feed) (by decide) rfl rfl s_X9_feed

abbrev X_X9_end : zM := (RX9, cX9_end, 2, (some .boolean), "end")
noncomputable def b_X9_end {d : Nat} (P : zP d) : zK d := (xild 1 (xi2l (xpL 0 (xald 0 (xgfI 25 46 (xi2l (xcS 3 0 0 f_X9_isIn (xif0 t0eq (xpI 0 (xzret P)) (xald 0 (xild 1 (xpfI 25 46 (xpI 1 (xzret P)))))))))))))
set_option maxRecDepth 100000 in
set_option maxHeartbeats 4000000 in
theorem s_X9_end {d : Nat} [zGh] (P : zP d) : zSim X_X9_end 2 P 0 (b_X9_end P) := by
  unfold b_X9_end
  refine sm_iload_n (pc := 0) (n := 1) dX9_end_0 rfl ?_
  refine sm_i2l (pc := 1) dX9_end_1 ?_
  refine sm_lconst (pc := 2) dX9_end_2 zc_l_0 ?_
  refine sm_aload_n (pc := 3) (n := 0) dX9_end_3 rfl ?_
  refine gf_X9_347 (pc := 4) rfl dX9_end_4 ?_
  refine sm_i2l (pc := 7) dX9_end_7 ?_
  refine sm_cS (pc := 8) (n := 3) (mc := 0) (ms := 0) m_X9_isIn (cr_X9_283 (X := X_X9_end) (fr := 2) (frc := 1) (pc := 8) (mc := 0) (ms := 0) rfl (by decide) dX9_end_8) ?_
  refine sm_if_ne (pc := 11) (tgt := 16) dX9_end_11 (by decide) ?_ ?_
  · skip
    refine sm_aload_n (pc := 16) (n := 0) dX9_end_16 rfl ?_
    refine sm_iload_n (pc := 17) (n := 1) dX9_end_17 rfl ?_
    refine pf_X9_347 (pc := 18) rfl dX9_end_18 ?_
    refine sm_iconst (pc := 21) dX9_end_21 zc_i_1 ?_
    exact sm_zreturn (pc := 22) dX9_end_22 rfl
  · skip
    refine sm_iconst (pc := 14) dX9_end_14 zc_i_0 ?_
    exact sm_zreturn (pc := 15) dX9_end_15 rfl
noncomputable def f_X9_end {d : Nat} : List zV → zH d → zP d → Bool := zfn 2 b_X9_end
theorem m_X9_end {d : Nat} : zMet (d := d) X_X9_end yX9_end 2 f_X9_end := zmet_mk (X := X_X9_end) (by decide) rfl rfl s_X9_end

abbrev X_X9_fault : zM := (RX9, cX9_fault, 2, (some .int), "fault")
noncomputable def bX9_fault_61 {d : Nat} (P : zP d) : zK d := (xiret P)
set_option maxRecDepth 100000 in
set_option maxHeartbeats 4000000 in
theorem sbX9_fault_61 {d : Nat} [zGh] (P : zP d) : zSim X_X9_fault 2 P 61 (bX9_fault_61 P) := by
  unfold bX9_fault_61
  exact sm_ireturn (pc := 61) dX9_fault_61 rfl
noncomputable def cX9_fault_57 {d : Nat} (P : zP d) (j61 : zK d) : zK d := j61
set_option maxRecDepth 100000 in
set_option maxHeartbeats 4000000 in
theorem scX9_fault_57 {d : Nat} [zGh] (P : zP d) (j61 : zK d) (hj61 : zSim X_X9_fault 2 P 61 j61) : zSim X_X9_fault 2 P 57 (cX9_fault_57 P j61) := by
  unfold cX9_fault_57
  refine sm_goto (pc := 57) (tgt := 61) dX9_fault_57 (by decide) ?_
  exact hj61
noncomputable def b_X9_fault {d : Nat} (P : zP d) : zK d := (xild 1 (xif0 t0eq (xald 0 (xgfI 25 48 (xiret P))) (xild 1 (xpI 1 (xcmp Nat.beq (xald 0 (xgfI 25 49 (xiret P))) (xild 1 (xpI 2 (xcmp Nat.beq (xald 0 (xgfI 25 50 (xiret P))) (xild 1 (xi2l (xpL 10 (xpI 9 (xald 0 (xgfI 25 50 (xbin zadd (xi2l (xcS 3 0 0 f_X9_isIn (xjoin (bX9_fault_61 P) (fun j61 => (xif0 t0eq (xpI 4294967295 j61) (xald 0 (xgfR 25 51 (xild 1 (xpI 10 (xbin zsub (xald1 0 (cX9_fault_57 P j61)))))))))))))))))))))))))))
set_option maxRecDepth 100000 in
set_option maxHeartbeats 4000000 in
theorem s_X9_fault {d : Nat} [zGh] (P : zP d) : zSim X_X9_fault 2 P 0 (b_X9_fault P) := by
  unfold b_X9_fault
  refine sm_iload_n (pc := 0) (n := 1) dX9_fault_0 rfl ?_
  refine sm_if_ne (pc := 1) (tgt := 9) dX9_fault_1 (by decide) ?_ ?_
  · skip
    refine sm_iload_n (pc := 9) (n := 1) dX9_fault_9 rfl ?_
    refine sm_iconst (pc := 10) dX9_fault_10 zc_i_1 ?_
    refine sm_icmp_ne (pc := 11) (tgt := 19) dX9_fault_11 (by decide) ?_ ?_
    · skip
      refine sm_iload_n (pc := 19) (n := 1) dX9_fault_19 rfl ?_
      refine sm_iconst (pc := 20) dX9_fault_20 zc_i_2 ?_
      refine sm_icmp_ne (pc := 21) (tgt := 29) dX9_fault_21 (by decide) ?_ ?_
      · skip
        refine sm_iload_n (pc := 29) (n := 1) dX9_fault_29 rfl ?_
        refine sm_i2l (pc := 30) dX9_fault_30 ?_
        refine sm_ldc2 (pc := 31) dX9_fault_31 wd_1427 zc_cl_10 ?_
        refine sm_bipush (pc := 34) dX9_fault_34 zc_b_9 ?_
        refine sm_aload_n (pc := 36) (n := 0) dX9_fault_36 rfl ?_
        refine gf_X9_361 (pc := 37) rfl dX9_fault_37 ?_
        refine sm_iadd (pc := 40) dX9_fault_40 ?_
        refine sm_i2l (pc := 41) dX9_fault_41 ?_
        refine sm_cS (pc := 42) (n := 3) (mc := 0) (ms := 0) m_X9_isIn (cr_X9_283 (X := X_X9_fault) (fr := 2) (frc := 1) (pc := 42) (mc := 0) (ms := 0) rfl (by decide) dX9_fault_42) ?_
        refine sm_join (pc := 45) (pc' := 61) (sbX9_fault_61 P) (fun j61 hj61 => ?_)
        refine sm_if_eq (pc := 45) (tgt := 60) dX9_fault_45 (by decide) ?_ ?_
        · skip
          refine sm_iconst (pc := 60) dX9_fault_60 zc_i_m1 ?_
          exact hj61
        · skip
          refine sm_aload_n (pc := 48) (n := 0) dX9_fault_48 rfl ?_
          refine gf_X9_128 (pc := 49) rfl dX9_fault_49 ?_
          refine sm_iload_n (pc := 52) (n := 1) dX9_fault_52 rfl ?_
          refine sm_bipush (pc := 53) dX9_fault_53 zc_b_10 ?_
          refine sm_isub (pc := 55) dX9_fault_55 ?_
          refine sm_iaload (pc := 56) dX9_fault_56 ?_
          exact scX9_fault_57 P j61 hj61
      · skip
        refine sm_aload_n (pc := 24) (n := 0) dX9_fault_24 rfl ?_
        refine gf_X9_361 (pc := 25) rfl dX9_fault_25 ?_
        exact sm_ireturn (pc := 28) dX9_fault_28 rfl
    · skip
      refine sm_aload_n (pc := 14) (n := 0) dX9_fault_14 rfl ?_
      refine gf_X9_124 (pc := 15) rfl dX9_fault_15 ?_
      exact sm_ireturn (pc := 18) dX9_fault_18 rfl
  · skip
    refine sm_aload_n (pc := 4) (n := 0) dX9_fault_4 rfl ?_
    refine gf_X9_356 (pc := 5) rfl dX9_fault_5 ?_
    exact sm_ireturn (pc := 8) dX9_fault_8 rfl
noncomputable def f_X9_fault {d : Nat} : List zV → zH d → zP d → Bool := zfn 2 b_X9_fault
theorem m_X9_fault {d : Nat} : zMet (d := d) X_X9_fault yX9_fault 2 f_X9_fault := zmet_mk (X := X_X9_fault) (by decide) rfl rfl s_X9_fault

abbrev X_X9_look : zM := (RX9, cX9_look, 5, (some .int), "look")
noncomputable def bX9_look_187 {d : Nat} (P : zP d) : zK d := (xpI 4294967295 (xiret P))
set_option maxRecDepth 100000 in
set_option maxHeartbeats 4000000 in
theorem sbX9_look_187 {d : Nat} [zGh] (P : zP d) : zSim X_X9_look 2 P 187 (bX9_look_187 P) := by
  unfold bX9_look_187
  refine sm_iconst (pc := 187) dX9_look_187 zc_i_m1 ?_
  exact sm_ireturn (pc := 188) dX9_look_188 rfl
noncomputable def bX9_look_148 {d : Nat} (P : zP d) : zK d := (xald 0 (xgfI 25 0 (xiret P)))
set_option maxRecDepth 100000 in
set_option maxHeartbeats 4000000 in
theorem sbX9_look_148 {d : Nat} [zGh] (P : zP d) : zSim X_X9_look 2 P 148 (bX9_look_148 P) := by
  unfold bX9_look_148
  refine sm_aload_n (pc := 148) (n := 0) dX9_look_148 rfl ?_
  refine gf_X9_169 (pc := 149) rfl dX9_look_149 ?_
  exact sm_ireturn (pc := 152) dX9_look_152 rfl
noncomputable def bX9_look_153 {d : Nat} (P : zP d) : zK d := (xald 0 (xgfI 25 1 (xiret P)))
set_option maxRecDepth 100000 in
set_option maxHeartbeats 4000000 in
theorem sbX9_look_153 {d : Nat} [zGh] (P : zP d) : zSim X_X9_look 2 P 153 (bX9_look_153 P) := by
  unfold bX9_look_153
  refine sm_aload_n (pc := 153) (n := 0) dX9_look_153 rfl ?_
  refine gf_X9_184 (pc := 154) rfl dX9_look_154 ?_
  exact sm_ireturn (pc := 157) dX9_look_157 rfl
noncomputable def bX9_look_158 {d : Nat} (P : zP d) : zK d := (xald 0 (xgfI 25 2 (xiret P)))
set_option maxRecDepth 100000 in
set_option maxHeartbeats 4000000 in
theorem sbX9_look_158 {d : Nat} [zGh] (P : zP d) : zSim X_X9_look 2 P 158 (bX9_look_158 P) := by
  unfold bX9_look_158
  refine sm_aload_n (pc := 158) (n := 0) dX9_look_158 rfl ?_
  refine gf_X9_153 (pc := 159) rfl dX9_look_159 ?_
  exact sm_ireturn (pc := 162) dX9_look_162 rfl
noncomputable def bX9_look_163 {d : Nat} (P : zP d) : zK d := (xald 0 (xgfI 25 11 (xiret P)))
set_option maxRecDepth 100000 in
set_option maxHeartbeats 4000000 in
theorem sbX9_look_163 {d : Nat} [zGh] (P : zP d) : zSim X_X9_look 2 P 163 (bX9_look_163 P) := by
  unfold bX9_look_163
  refine sm_aload_n (pc := 163) (n := 0) dX9_look_163 rfl ?_
  refine gf_X9_172 (pc := 164) rfl dX9_look_164 ?_
  exact sm_ireturn (pc := 167) dX9_look_167 rfl
noncomputable def bX9_look_168 {d : Nat} (P : zP d) : zK d := (xald 0 (xgfI 25 18 (xiret P)))
set_option maxRecDepth 100000 in
set_option maxHeartbeats 4000000 in
theorem sbX9_look_168 {d : Nat} [zGh] (P : zP d) : zSim X_X9_look 2 P 168 (bX9_look_168 P) := by
  unfold bX9_look_168
  refine sm_aload_n (pc := 168) (n := 0) dX9_look_168 rfl ?_
  refine gf_X9_199 (pc := 169) rfl dX9_look_169 ?_
  exact sm_ireturn (pc := 172) dX9_look_172 rfl
noncomputable def bX9_look_173 {d : Nat} (P : zP d) : zK d := (xald 0 (xgfI 25 12 (xiret P)))
set_option maxRecDepth 100000 in
set_option maxHeartbeats 4000000 in
theorem sbX9_look_173 {d : Nat} [zGh] (P : zP d) : zSim X_X9_look 2 P 173 (bX9_look_173 P) := by
  unfold bX9_look_173
  refine sm_aload_n (pc := 173) (n := 0) dX9_look_173 rfl ?_
  refine gf_X9_166 (pc := 174) rfl dX9_look_174 ?_
  exact sm_ireturn (pc := 177) dX9_look_177 rfl
noncomputable def bX9_look_178 {d : Nat} (P : zP d) : zK d := (xald 0 (xgfI 25 46 (xiret P)))
set_option maxRecDepth 100000 in
set_option maxHeartbeats 4000000 in
theorem sbX9_look_178 {d : Nat} [zGh] (P : zP d) : zSim X_X9_look 2 P 178 (bX9_look_178 P) := by
  unfold bX9_look_178
  refine sm_aload_n (pc := 178) (n := 0) dX9_look_178 rfl ?_
  refine gf_X9_347 (pc := 179) rfl dX9_look_179 ?_
  exact sm_ireturn (pc := 182) dX9_look_182 rfl
noncomputable def bX9_look_183 {d : Nat} (P : zP d) : zK d := (xild 2 (xiret P))
set_option maxRecDepth 100000 in
set_option maxHeartbeats 4000000 in
theorem sbX9_look_183 {d : Nat} [zGh] (P : zP d) : zSim X_X9_look 2 P 183 (bX9_look_183 P) := by
  unfold bX9_look_183
  refine sm_iload_n (pc := 183) (n := 2) dX9_look_183 rfl ?_
  exact sm_ireturn (pc := 184) dX9_look_184 rfl
noncomputable def bX9_look_185 {d : Nat} (P : zP d) : zK d := (xild 3 (xiret P))
set_option maxRecDepth 100000 in
set_option maxHeartbeats 4000000 in
theorem sbX9_look_185 {d : Nat} [zGh] (P : zP d) : zSim X_X9_look 2 P 185 (bX9_look_185 P) := by
  unfold bX9_look_185
  refine sm_iload_n (pc := 185) (n := 3) dX9_look_185 rfl ?_
  exact sm_ireturn (pc := 186) dX9_look_186 rfl
noncomputable def bX9_look_87 {d : Nat} (P : zP d) (r57 : zK d) : zK d := (xcS 1 0 0 f_X9_one (xbin zadd (xist 3 (xinc 4 1 r57))))
set_option maxRecDepth 100000 in
set_option maxHeartbeats 4000000 in
theorem sbX9_look_87 {d : Nat} [zGh] (P : zP d) (r57 : zK d) (hr57 : zSim X_X9_look 2 P 57 r57) : zSim X_X9_look 2 P 87 (bX9_look_87 P r57) := by
  unfold bX9_look_87
  refine sm_cS (pc := 87) (n := 1) (mc := 0) (ms := 0) m_X9_one (cr_X9_187 (X := X_X9_look) (fr := 2) (frc := 1) (pc := 87) (mc := 0) (ms := 0) rfl (by decide) dX9_look_87) ?_
  refine sm_iadd (pc := 90) dX9_look_90 ?_
  refine sm_istore_n (pc := 91) (n := 3) dX9_look_91 rfl ?_
  refine sm_iinc (pc := 92) (n := 4) dX9_look_92 zc_i_1 ?_
  refine sm_goto (pc := 95) (tgt := 57) dX9_look_95 (by decide) ?_
  exact hr57
noncomputable def lX9_look_57 {d : Nat} (P : zP d) (r57 : zK d) : zK d := (xild 4 (xald 0 (xgfI 25 18 (xcmp tge (xild 1 (xtsw [(bX9_look_148 P), (bX9_look_153 P), (bX9_look_158 P), (bX9_look_163 P), (bX9_look_168 P), (bX9_look_173 P), (bX9_look_178 P), (bX9_look_183 P), (bX9_look_185 P)] (bX9_look_187 P))) (xild 3 (xald 0 (xgfR 25 15 (xald 0 (xgfR 25 19 (xild 4 (xald1 0 (xald1 0 (xjoin (bX9_look_87 P r57) (fun j87 => (xif0 t0eq (xpI 1 j87) (xpI 0 j87))))))))))))))))
set_option maxRecDepth 100000 in
set_option maxHeartbeats 4000000 in
theorem slX9_look_57 {d : Nat} [zGh] (P : zP d) (r57 : zK d) (hr57 : zSim X_X9_look 2 P 57 r57) : zSim X_X9_look 2 P 57 (lX9_look_57 P r57) := by
  unfold lX9_look_57
  refine sm_iload (pc := 57) (n := 4) dX9_look_57 ?_
  refine sm_aload_n (pc := 59) (n := 0) dX9_look_59 rfl ?_
  refine gf_X9_199 (pc := 60) rfl dX9_look_60 ?_
  refine sm_icmp_ge (pc := 63) (tgt := 98) dX9_look_63 (by decide) ?_ ?_
  · skip
    refine sm_iload_n (pc := 98) (n := 1) dX9_look_98 rfl ?_
    refine sm_tsw2 (pc := 99) (n := 8) (tdf := 187) [148, 153, 158, 163, 168, 173, 178, 183, 185] rfl (by decide) dX9_look_99 rfl (by decide +kernel) (by decide) (sbX9_look_187 P) (fun i k t hk ht => ?_)
    match i, hk, ht with
    | 0, hk, ht => cases hk; cases ht; exact sbX9_look_148 P
    | 1, hk, ht => cases hk; cases ht; exact sbX9_look_153 P
    | 2, hk, ht => cases hk; cases ht; exact sbX9_look_158 P
    | 3, hk, ht => cases hk; cases ht; exact sbX9_look_163 P
    | 4, hk, ht => cases hk; cases ht; exact sbX9_look_168 P
    | 5, hk, ht => cases hk; cases ht; exact sbX9_look_173 P
    | 6, hk, ht => cases hk; cases ht; exact sbX9_look_178 P
    | 7, hk, ht => cases hk; cases ht; exact sbX9_look_183 P
    | 8, hk, ht => cases hk; cases ht; exact sbX9_look_185 P
    | i + 9, hk, ht => cases hk
  · skip
    refine sm_iload_n (pc := 66) (n := 3) dX9_look_66 rfl ?_
    refine sm_aload_n (pc := 67) (n := 0) dX9_look_67 rfl ?_
    refine gf_X9_41 (pc := 68) rfl dX9_look_68 ?_
    refine sm_aload_n (pc := 71) (n := 0) dX9_look_71 rfl ?_
    refine gf_X9_50 (pc := 72) rfl dX9_look_72 ?_
    refine sm_iload (pc := 75) (n := 4) dX9_look_75 ?_
    refine sm_iaload (pc := 77) dX9_look_77 ?_
    refine sm_iaload (pc := 78) dX9_look_78 ?_
    refine sm_join (pc := 79) (pc' := 87) (sbX9_look_87 P r57 hr57) (fun j87 hj87 => ?_)
    refine sm_if_ne (pc := 79) (tgt := 86) dX9_look_79 (by decide) ?_ ?_
    · skip
      refine sm_iconst (pc := 86) dX9_look_86 zc_i_0 ?_
      exact hj87
    · skip
      refine sm_iconst (pc := 82) dX9_look_82 zc_i_1 ?_
      refine sm_goto (pc := 83) (tgt := 87) dX9_look_83 (by decide) ?_
      exact hj87
noncomputable def bX9_look_48 {d : Nat} (P : zP d) (r7 : zK d) : zK d := (xinc 4 1 r7)
set_option maxRecDepth 100000 in
set_option maxHeartbeats 4000000 in
theorem sbX9_look_48 {d : Nat} [zGh] (P : zP d) (r7 : zK d) (hr7 : zSim X_X9_look 2 P 7 r7) : zSim X_X9_look 2 P 48 (bX9_look_48 P r7) := by
  unfold bX9_look_48
  refine sm_iinc (pc := 48) (n := 4) dX9_look_48 zc_i_1 ?_
  refine sm_goto (pc := 51) (tgt := 7) dX9_look_51 (by decide) ?_
  exact hr7
noncomputable def lX9_look_7 {d : Nat} (P : zP d) (r7 : zK d) : zK d := (xild 4 (xpI 66 (xcmp tge (xpI 0 (xist 4 (xloop (fun r57 => (lX9_look_57 P r57)) 100000))) (xild 4 (xpI 11 (xbinN zrem (xald 0 (xgfI 25 2 (xjoin (bX9_look_48 P r7) (fun j48 => (xcmp tge j48 (xald 0 (xgfR 25 43 (xild 4 (xlal (xpL 0 (xlcmp (xif0 t0eq j48 (xild 2 (xpI 1 (xild 4 (xpI 11 (xbinN zdiv (xbin zshl (xbin zor (xist 2 j48))))))))))))))))))))))))))
set_option maxRecDepth 100000 in
set_option maxHeartbeats 4000000 in
theorem slX9_look_7 {d : Nat} [zGh] (P : zP d) (r7 : zK d) (hr7 : zSim X_X9_look 2 P 7 r7) : zSim X_X9_look 2 P 7 (lX9_look_7 P r7) := by
  unfold lX9_look_7
  refine sm_iload (pc := 7) (n := 4) dX9_look_7 ?_
  refine sm_bipush (pc := 9) dX9_look_9 zc_b_66 ?_
  refine sm_icmp_ge (pc := 11) (tgt := 54) dX9_look_11 (by decide) ?_ ?_
  · skip
    refine sm_iconst (pc := 54) dX9_look_54 zc_i_0 ?_
    refine sm_istore (pc := 55) (n := 4) dX9_look_55 ?_
    exact sm_loop (fun r57 hr57 => slX9_look_57 P r57 hr57) _
  · skip
    refine sm_iload (pc := 14) (n := 4) dX9_look_14 ?_
    refine sm_bipush (pc := 16) dX9_look_16 zc_b_11 ?_
    refine sm_irem (pc := 18) dX9_look_18 ?_
    refine sm_aload_n (pc := 19) (n := 0) dX9_look_19 rfl ?_
    refine gf_X9_153 (pc := 20) rfl dX9_look_20 ?_
    refine sm_join (pc := 23) (pc' := 48) (sbX9_look_48 P r7 hr7) (fun j48 hj48 => ?_)
    refine sm_icmp_ge (pc := 23) (tgt := 48) dX9_look_23 (by decide) ?_ ?_
    · skip
      exact hj48
    · skip
      refine sm_aload_n (pc := 26) (n := 0) dX9_look_26 rfl ?_
      refine gf_X9_115 (pc := 27) rfl dX9_look_27 ?_
      refine sm_iload (pc := 30) (n := 4) dX9_look_30 ?_
      refine sm_laload (pc := 32) dX9_look_32 ?_
      refine sm_lconst (pc := 33) dX9_look_33 zc_l_0 ?_
      refine sm_lcmp (pc := 34) dX9_look_34 ?_
      refine sm_if_eq (pc := 35) (tgt := 48) dX9_look_35 (by decide) ?_ ?_
      · skip
        exact hj48
      · skip
        refine sm_iload_n (pc := 38) (n := 2) dX9_look_38 rfl ?_
        refine sm_iconst (pc := 39) dX9_look_39 zc_i_1 ?_
        refine sm_iload (pc := 40) (n := 4) dX9_look_40 ?_
        refine sm_bipush (pc := 42) dX9_look_42 zc_b_11 ?_
        refine sm_idiv (pc := 44) dX9_look_44 ?_
        refine sm_ishl (pc := 45) dX9_look_45 ?_
        refine sm_ior (pc := 46) dX9_look_46 ?_
        refine sm_istore_n (pc := 47) (n := 2) dX9_look_47 rfl ?_
        exact hj48
noncomputable def b_X9_look {d : Nat} (P : zP d) : zK d := (xpI 0 (xist 2 (xpI 0 (xist 3 (xpI 0 (xist 4 (xloop (fun r7 => (lX9_look_7 P r7)) 100000)))))))
set_option maxRecDepth 100000 in
set_option maxHeartbeats 4000000 in
theorem s_X9_look {d : Nat} [zGh] (P : zP d) : zSim X_X9_look 2 P 0 (b_X9_look P) := by
  unfold b_X9_look
  refine sm_iconst (pc := 0) dX9_look_0 zc_i_0 ?_
  refine sm_istore_n (pc := 1) (n := 2) dX9_look_1 rfl ?_
  refine sm_iconst (pc := 2) dX9_look_2 zc_i_0 ?_
  refine sm_istore_n (pc := 3) (n := 3) dX9_look_3 rfl ?_
  refine sm_iconst (pc := 4) dX9_look_4 zc_i_0 ?_
  refine sm_istore (pc := 5) (n := 4) dX9_look_5 ?_
  exact sm_loop (fun r7 hr7 => slX9_look_7 P r7 hr7) _
noncomputable def f_X9_look {d : Nat} : List zV → zH d → zP d → Bool := zfn 5 b_X9_look
theorem m_X9_look {d : Nat} : zMet (d := d) X_X9_look yX9_look 2 f_X9_look := zmet_mk (X := X_X9_look) (by decide) rfl rfl s_X9_look
