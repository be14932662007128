/-! the reference, by program -/
abbrev X_X9_lays : zM := (RX9, cX9_lays, 7, none, "lays")
noncomputable def lX9_lays_339 {d : Nat} (P : zP d) (r339 : zK d) : zK d := (xild 3 (xpI 66 (xcmp tge (xvret P) (xald 0 (xgfR 25 43 (xild 3 (xpL 0 (xlas (xinc 3 1 r339)))))))))
set_option maxRecDepth 100000 in
set_option maxHeartbeats 4000000 in
theorem slX9_lays_339 {d : Nat} (P : zP d) (r339 : zK d) (hr339 : zSim X_X9_lays 20 P 339 r339) : zSim X_X9_lays 20 P 339 (lX9_lays_339 P r339) := by
  unfold lX9_lays_339
  refine sm_iload_n (pc := 339) (n := 3) dX9_lays_339 rfl ?_
  refine sm_bipush (pc := 340) dX9_lays_340 zc_b_66 ?_
  refine sm_icmp_ge (pc := 342) (tgt := 358) dX9_lays_342 (by decide) ?_ ?_
  · skip
    exact sm_vreturn (pc := 358) dX9_lays_358 rfl
  · skip
    refine sm_aload_n (pc := 345) (n := 0) dX9_lays_345 rfl ?_
    refine gf_X9_115 (pc := 346) rfl dX9_lays_346 ?_
    refine sm_iload_n (pc := 349) (n := 3) dX9_lays_349 rfl ?_
    refine sm_lconst (pc := 350) dX9_lays_350 zc_l_0 ?_
    refine sm_lastore (pc := 351) dX9_lays_351 ?_
    refine sm_iinc (pc := 352) (n := 3) dX9_lays_352 zc_i_1 ?_
    refine sm_goto (pc := 355) (tgt := 339) dX9_lays_355 (by decide) ?_
    exact hr339
noncomputable def bX9_lays_331 {d : Nat} (P : zP d) (r225 : zK d) : zK d := (xinc 3 1 r225)
set_option maxRecDepth 100000 in
set_option maxHeartbeats 4000000 in
theorem sbX9_lays_331 {d : Nat} (P : zP d) (r225 : zK d) (hr225 : zSim X_X9_lays 20 P 225 r225) : zSim X_X9_lays 20 P 331 (bX9_lays_331 P r225) := by
  unfold bX9_lays_331
  refine sm_iinc (pc := 331) (n := 3) dX9_lays_331 zc_i_1 ?_
  refine sm_goto (pc := 334) (tgt := 225) dX9_lays_334 (by decide) ?_
  exact hr225
noncomputable def cX9_lays_301 {d : Nat} (P : zP d) (r260 : zK d) : zK d := (xbin zmul (xbin zadd (xist 5 (xinc 6 1 r260))))
set_option maxRecDepth 100000 in
set_option maxHeartbeats 4000000 in
theorem scX9_lays_301 {d : Nat} (P : zP d) (r260 : zK d) (hr260 : zSim X_X9_lays 20 P 260 r260) : zSim X_X9_lays 20 P 301 (cX9_lays_301 P r260) := by
  unfold cX9_lays_301
  refine sm_imul (pc := 301) dX9_lays_301 ?_
  refine sm_iadd (pc := 302) dX9_lays_302 ?_
  refine sm_istore (pc := 303) (n := 5) dX9_lays_303 ?_
  refine sm_iinc (pc := 305) (n := 6) dX9_lays_305 zc_i_1 ?_
  refine sm_goto (pc := 308) (tgt := 260) dX9_lays_308 (by decide) ?_
  exact hr260
noncomputable def lX9_lays_260 {d : Nat} (P : zP d) (r236 : zK d) (r260 : zK d) : zK d := (xild 6 (xald 0 (xgfI 25 2 (xcmp tge (xald 0 (xgfR 25 40 (xpI 11 (xild 3 (xbin zmul (xild 4 (xbin zadd (xild 5 (xast1 0 (fun v => v) (xinc 4 1 r236)))))))))) (xild 5 (xald 0 (xgfR 25 38 (xpI 11 (xild 6 (xbin zmul (xald 0 (xgfR 25 10 (xild 3 (xald1 0 (xbin zadd (xald1 0 (xald 0 (xgfR 25 14 (xpI 11 (xild 6 (xbin zmul (xild 4 (xbin zadd (xald1 0 (cX9_lays_301 P r260)))))))))))))))))))))))))
set_option maxRecDepth 100000 in
set_option maxHeartbeats 4000000 in
theorem slX9_lays_260 {d : Nat} (P : zP d) (r236 : zK d) (r260 : zK d) (hr236 : zSim X_X9_lays 20 P 236 r236) (hr260 : zSim X_X9_lays 20 P 260 r260) : zSim X_X9_lays 20 P 260 (lX9_lays_260 P r236 r260) := by
  unfold lX9_lays_260
  refine sm_iload (pc := 260) (n := 6) dX9_lays_260 ?_
  refine sm_aload_n (pc := 262) (n := 0) dX9_lays_262 rfl ?_
  refine gf_X9_153 (pc := 263) rfl dX9_lays_263 ?_
  refine sm_icmp_ge (pc := 266) (tgt := 311) dX9_lays_266 (by decide) ?_ ?_
  · skip
    refine sm_aload_n (pc := 311) (n := 0) dX9_lays_311 rfl ?_
    refine gf_X9_105 (pc := 312) rfl dX9_lays_312 ?_
    refine sm_bipush (pc := 315) dX9_lays_315 zc_b_11 ?_
    refine sm_iload_n (pc := 317) (n := 3) dX9_lays_317 rfl ?_
    refine sm_imul (pc := 318) dX9_lays_318 ?_
    refine sm_iload (pc := 319) (n := 4) dX9_lays_319 ?_
    refine sm_iadd (pc := 321) dX9_lays_321 ?_
    refine sm_iload (pc := 322) (n := 5) dX9_lays_322 ?_
    refine sm_iastore (pc := 324) dX9_lays_324 ?_
    refine sm_iinc (pc := 325) (n := 4) dX9_lays_325 zc_i_1 ?_
    refine sm_goto (pc := 328) (tgt := 236) dX9_lays_328 (by decide) ?_
    exact hr236
  · skip
    refine sm_iload (pc := 269) (n := 5) dX9_lays_269 ?_
    refine sm_aload_n (pc := 271) (n := 0) dX9_lays_271 rfl ?_
    refine gf_X9_99 (pc := 272) rfl dX9_lays_272 ?_
    refine sm_bipush (pc := 275) dX9_lays_275 zc_b_11 ?_
    refine sm_iload (pc := 277) (n := 6) dX9_lays_277 ?_
    refine sm_imul (pc := 279) dX9_lays_279 ?_
    refine sm_aload_n (pc := 280) (n := 0) dX9_lays_280 rfl ?_
    refine gf_X9_32 (pc := 281) rfl dX9_lays_281 ?_
    refine sm_iload_n (pc := 284) (n := 3) dX9_lays_284 rfl ?_
    refine sm_iaload (pc := 285) dX9_lays_285 ?_
    refine sm_iadd (pc := 286) dX9_lays_286 ?_
    refine sm_iaload (pc := 287) dX9_lays_287 ?_
    refine sm_aload_n (pc := 288) (n := 0) dX9_lays_288 rfl ?_
    refine gf_X9_38 (pc := 289) rfl dX9_lays_289 ?_
    refine sm_bipush (pc := 292) dX9_lays_292 zc_b_11 ?_
    refine sm_iload (pc := 294) (n := 6) dX9_lays_294 ?_
    refine sm_imul (pc := 296) dX9_lays_296 ?_
    refine sm_iload (pc := 297) (n := 4) dX9_lays_297 ?_
    refine sm_iadd (pc := 299) dX9_lays_299 ?_
    refine sm_iaload (pc := 300) dX9_lays_300 ?_
    exact scX9_lays_301 P r260 hr260
noncomputable def lX9_lays_236 {d : Nat} (P : zP d) (r225 : zK d) (r236 : zK d) : zK d := (xild 4 (xald 0 (xgfI 25 2 (xjoin (bX9_lays_331 P r225) (fun j331 => (xcmp tge j331 (xald 0 (xgfR 25 7 (xild 3 (xald1 1 (xif0 t0eq j331 (xpI 0 (xist 5 (xpI 0 (xist 6 (xloop (fun r260 => (lX9_lays_260 P r236 r260)) 100000))))))))))))))))
set_option maxRecDepth 100000 in
set_option maxHeartbeats 4000000 in
theorem slX9_lays_236 {d : Nat} (P : zP d) (r225 : zK d) (r236 : zK d) (hr225 : zSim X_X9_lays 20 P 225 r225) (hr236 : zSim X_X9_lays 20 P 236 r236) : zSim X_X9_lays 20 P 236 (lX9_lays_236 P r225 r236) := by
  unfold lX9_lays_236
  refine sm_iload (pc := 236) (n := 4) dX9_lays_236 ?_
  refine sm_aload_n (pc := 238) (n := 0) dX9_lays_238 rfl ?_
  refine gf_X9_153 (pc := 239) rfl dX9_lays_239 ?_
  refine sm_join (pc := 242) (pc' := 331) (sbX9_lays_331 P r225 hr225) (fun j331 hj331 => ?_)
  refine sm_icmp_ge (pc := 242) (tgt := 331) dX9_lays_242 (by decide) ?_ ?_
  · skip
    exact hj331
  · skip
    refine sm_aload_n (pc := 245) (n := 0) dX9_lays_245 rfl ?_
    refine gf_X9_22 (pc := 246) rfl dX9_lays_246 ?_
    refine sm_iload_n (pc := 249) (n := 3) dX9_lays_249 rfl ?_
    refine sm_baload (pc := 250) dX9_lays_250 ?_
    refine sm_if_eq (pc := 251) (tgt := 331) dX9_lays_251 (by decide) ?_ ?_
    · skip
      exact hj331
    · skip
      refine sm_iconst (pc := 254) dX9_lays_254 zc_i_0 ?_
      refine sm_istore (pc := 255) (n := 5) dX9_lays_255 ?_
      refine sm_iconst (pc := 257) dX9_lays_257 zc_i_0 ?_
      refine sm_istore (pc := 258) (n := 6) dX9_lays_258 ?_
      exact sm_loop (fun r260 hr260 => slX9_lays_260 P r236 r260 hr236 hr260) _
noncomputable def lX9_lays_225 {d : Nat} (P : zP d) (r225 : zK d) : zK d := (xild 3 (xald 0 (xgfI 25 2 (xcmp tge (xpI 0 (xist 3 (xloop (fun r339 => (lX9_lays_339 P r339)) 100000))) (xpI 0 (xist 4 (xloop (fun r236 => (lX9_lays_236 P r225 r236)) 100000)))))))
set_option maxRecDepth 100000 in
set_option maxHeartbeats 4000000 in
theorem slX9_lays_225 {d : Nat} (P : zP d) (r225 : zK d) (hr225 : zSim X_X9_lays 20 P 225 r225) : zSim X_X9_lays 20 P 225 (lX9_lays_225 P r225) := by
  unfold lX9_lays_225
  refine sm_iload_n (pc := 225) (n := 3) dX9_lays_225 rfl ?_
  refine sm_aload_n (pc := 226) (n := 0) dX9_lays_226 rfl ?_
  refine gf_X9_153 (pc := 227) rfl dX9_lays_227 ?_
  refine sm_icmp_ge (pc := 230) (tgt := 337) dX9_lays_230 (by decide) ?_ ?_
  · skip
    refine sm_iconst (pc := 337) dX9_lays_337 zc_i_0 ?_
    refine sm_istore_n (pc := 338) (n := 3) dX9_lays_338 rfl ?_
    exact sm_loop (fun r339 hr339 => slX9_lays_339 P r339 hr339) _
  · skip
    refine sm_iconst (pc := 233) dX9_lays_233 zc_i_0 ?_
    refine sm_istore (pc := 234) (n := 4) dX9_lays_234 ?_
    exact sm_loop (fun r236 hr236 => slX9_lays_236 P r225 r236 hr225 hr236) _
noncomputable def bX9_lays_213 {d : Nat} (P : zP d) (r65 : zK d) : zK d := (xinc 3 1 r65)
set_option maxRecDepth 100000 in
set_option maxHeartbeats 4000000 in
theorem sbX9_lays_213 {d : Nat} (P : zP d) (r65 : zK d) (hr65 : zSim X_X9_lays 20 P 65 r65) : zSim X_X9_lays 20 P 213 (bX9_lays_213 P r65) := by
  unfold bX9_lays_213
  refine sm_iinc (pc := 213) (n := 3) dX9_lays_213 zc_i_1 ?_
  refine sm_goto (pc := 216) (tgt := 65) dX9_lays_216 (by decide) ?_
  exact hr65
noncomputable def bX9_lays_207 {d : Nat} (P : zP d) (r161 : zK d) : zK d := (xinc 4 1 r161)
set_option maxRecDepth 100000 in
set_option maxHeartbeats 4000000 in
theorem sbX9_lays_207 {d : Nat} (P : zP d) (r161 : zK d) (hr161 : zSim X_X9_lays 20 P 161 r161) : zSim X_X9_lays 20 P 207 (bX9_lays_207 P r161) := by
  unfold bX9_lays_207
  refine sm_iinc (pc := 207) (n := 4) dX9_lays_207 zc_i_1 ?_
  refine sm_goto (pc := 210) (tgt := 161) dX9_lays_210 (by decide) ?_
  exact hr161
noncomputable def cX9_lays_206 {d : Nat} (P : zP d) (j207 : zK d) : zK d := (xast1 0 (fun v => v) j207)
set_option maxRecDepth 100000 in
set_option maxHeartbeats 4000000 in
theorem scX9_lays_206 {d : Nat} (P : zP d) (j207 : zK d) (hj207 : zSim X_X9_lays 20 P 207 j207) : zSim X_X9_lays 20 P 206 (cX9_lays_206 P j207) := by
  unfold cX9_lays_206
  refine sm_iastore (pc := 206) dX9_lays_206 ?_
  exact hj207
noncomputable def lX9_lays_161 {d : Nat} (P : zP d) (r161 : zK d) (r65 : zK d) : zK d := (xild 4 (xald 0 (xgfI 25 2 (xjoin (bX9_lays_213 P r65) (fun j213 => (xcmp tge j213 (xald 0 (xgfR 25 7 (xild 3 (xald1 1 (xif0 t0eq j213 (xald 0 (xgfR 25 8 (xild 4 (xald1 1 (xjoin (bX9_lays_207 P r161) (fun j207 => (xif0 t0eq j207 (xald 0 (xgfR 25 37 (xpI 11 (xild 3 (xbin zmul (xild 4 (xbin zadd (xald 0 (xild 4 (xcV 25 2 0 0 f_X9_modularOf (cX9_lays_206 P j207)))))))))))))))))))))))))))))
set_option maxRecDepth 100000 in
set_option maxHeartbeats 4000000 in
theorem slX9_lays_161 {d : Nat} (P : zP d) (r161 : zK d) (r65 : zK d) (hr161 : zSim X_X9_lays 20 P 161 r161) (hr65 : zSim X_X9_lays 20 P 65 r65) : zSim X_X9_lays 20 P 161 (lX9_lays_161 P r161 r65) := by
  unfold lX9_lays_161
  refine sm_iload (pc := 161) (n := 4) dX9_lays_161 ?_
  refine sm_aload_n (pc := 163) (n := 0) dX9_lays_163 rfl ?_
  refine gf_X9_153 (pc := 164) rfl dX9_lays_164 ?_
  refine sm_join (pc := 167) (pc' := 213) (sbX9_lays_213 P r65 hr65) (fun j213 hj213 => ?_)
  refine sm_icmp_ge (pc := 167) (tgt := 213) dX9_lays_167 (by decide) ?_ ?_
  · skip
    exact hj213
  · skip
    refine sm_aload_n (pc := 170) (n := 0) dX9_lays_170 rfl ?_
    refine gf_X9_22 (pc := 171) rfl dX9_lays_171 ?_
    refine sm_iload_n (pc := 174) (n := 3) dX9_lays_174 rfl ?_
    refine sm_baload (pc := 175) dX9_lays_175 ?_
    refine sm_if_eq (pc := 176) (tgt := 213) dX9_lays_176 (by decide) ?_ ?_
    · skip
      exact hj213
    · skip
      refine sm_aload_n (pc := 179) (n := 0) dX9_lays_179 rfl ?_
      refine gf_X9_26 (pc := 180) rfl dX9_lays_180 ?_
      refine sm_iload (pc := 183) (n := 4) dX9_lays_183 ?_
      refine sm_baload (pc := 185) dX9_lays_185 ?_
      refine sm_join (pc := 186) (pc' := 207) (sbX9_lays_207 P r161 hr161) (fun j207 hj207 => ?_)
      refine sm_if_eq (pc := 186) (tgt := 207) dX9_lays_186 (by decide) ?_ ?_
      · skip
        exact hj207
      · skip
        refine sm_aload_n (pc := 189) (n := 0) dX9_lays_189 rfl ?_
        refine gf_X9_96 (pc := 190) rfl dX9_lays_190 ?_
        refine sm_bipush (pc := 193) dX9_lays_193 zc_b_11 ?_
        refine sm_iload_n (pc := 195) (n := 3) dX9_lays_195 rfl ?_
        refine sm_imul (pc := 196) dX9_lays_196 ?_
        refine sm_iload (pc := 197) (n := 4) dX9_lays_197 ?_
        refine sm_iadd (pc := 199) dX9_lays_199 ?_
        refine sm_aload_n (pc := 200) (n := 0) dX9_lays_200 rfl ?_
        refine sm_iload (pc := 201) (n := 4) dX9_lays_201 ?_
        refine sm_cV (pc := 203) (ci := 9) (n := 2) (mc := 0) (ms := 0) rfl m_X9_modularOf (cr_X9_275 (X := X_X9_lays) (fr := 20) (frc := 19) (pc := 203) (mc := 0) (ms := 0) rfl (by decide) dX9_lays_203) ?_
        exact scX9_lays_206 P j207 hj207
noncomputable def cX9_lays_149 {d : Nat} (P : zP d) (r65 : zK d) : zK d := (xild 3 (xald1 0 (xbin zsub (xast1 0 (fun v => v) (xald 0 (xild 3 (xcV 25 2 0 0 f_X9_forms (xpI 0 (xist 4 (xloop (fun r161 => (lX9_lays_161 P r161 r65)) 100000))))))))))
set_option maxRecDepth 100000 in
set_option maxHeartbeats 4000000 in
theorem scX9_lays_149 {d : Nat} (P : zP d) (r65 : zK d) (hr65 : zSim X_X9_lays 20 P 65 r65) : zSim X_X9_lays 20 P 149 (cX9_lays_149 P r65) := by
  unfold cX9_lays_149
  refine sm_iload_n (pc := 149) (n := 3) dX9_lays_149 rfl ?_
  refine sm_iaload (pc := 150) dX9_lays_150 ?_
  refine sm_isub (pc := 151) dX9_lays_151 ?_
  refine sm_iastore (pc := 152) dX9_lays_152 ?_
  refine sm_aload_n (pc := 153) (n := 0) dX9_lays_153 rfl ?_
  refine sm_iload_n (pc := 154) (n := 3) dX9_lays_154 rfl ?_
  refine sm_cV (pc := 155) (ci := 9) (n := 2) (mc := 0) (ms := 0) rfl m_X9_forms (cr_X9_272 (X := X_X9_lays) (fr := 20) (frc := 19) (pc := 155) (mc := 0) (ms := 0) rfl (by decide) dX9_lays_155) ?_
  refine sm_iconst (pc := 158) dX9_lays_158 zc_i_0 ?_
  refine sm_istore (pc := 159) (n := 4) dX9_lays_159 ?_
  exact sm_loop (fun r161 hr161 => slX9_lays_161 P r161 r65 hr161 hr65) _
noncomputable def lX9_lays_76 {d : Nat} (P : zP d) (r65 : zK d) (r76 : zK d) : zK d := (xild 4 (xald 0 (xgfI 25 2 (xcmp tge (xald 0 (xild 3 (xpfI 25 25 (xald 0 (xgfR 25 20 (xild 3 (xald 0 (xgfI 25 23 (xast1 0 (fun v => v) (xald 0 (xpI 0 (xpI 0 (xcV 25 3 0 0 f_X9_fills (xald 0 (xgfR 25 21 (xild 3 (xald 0 (xgfI 25 23 (xald 0 (xgfR 25 20 (cX9_lays_149 P r65))))))))))))))))))))) (xald 0 (xgfR 25 14 (xpI 11 (xild 3 (xbin zmul (xild 4 (xbin zadd (xald 0 (xald 0 (xild 3 (xcV 25 2 0 0 f_X9_beadsOf (xild 4 (xpI 0 (xcV 25 4 0 0 f_X9_charOf (xast1 0 (fun v => v) (xinc 4 1 r76))))))))))))))))))))
set_option maxRecDepth 100000 in
set_option maxHeartbeats 4000000 in
theorem slX9_lays_76 {d : Nat} (P : zP d) (r65 : zK d) (r76 : zK d) (hr65 : zSim X_X9_lays 20 P 65 r65) (hr76 : zSim X_X9_lays 20 P 76 r76) : zSim X_X9_lays 20 P 76 (lX9_lays_76 P r65 r76) := by
  unfold lX9_lays_76
  refine sm_iload (pc := 76) (n := 4) dX9_lays_76 ?_
  refine sm_aload_n (pc := 78) (n := 0) dX9_lays_78 rfl ?_
  refine gf_X9_153 (pc := 79) rfl dX9_lays_79 ?_
  refine sm_icmp_ge (pc := 82) (tgt := 115) dX9_lays_82 (by decide) ?_ ?_
  · skip
    refine sm_aload_n (pc := 115) (n := 0) dX9_lays_115 rfl ?_
    refine sm_iload_n (pc := 116) (n := 3) dX9_lays_116 rfl ?_
    refine pf_X9_205 (pc := 117) rfl dX9_lays_117 ?_
    refine sm_aload_n (pc := 120) (n := 0) dX9_lays_120 rfl ?_
    refine gf_X9_53 (pc := 121) rfl dX9_lays_121 ?_
    refine sm_iload_n (pc := 124) (n := 3) dX9_lays_124 rfl ?_
    refine sm_aload_n (pc := 125) (n := 0) dX9_lays_125 rfl ?_
    refine gf_X9_208 (pc := 126) rfl dX9_lays_126 ?_
    refine sm_iastore (pc := 129) dX9_lays_129 ?_
    refine sm_aload_n (pc := 130) (n := 0) dX9_lays_130 rfl ?_
    refine sm_iconst (pc := 131) dX9_lays_131 zc_i_0 ?_
    refine sm_iconst (pc := 132) dX9_lays_132 zc_i_0 ?_
    refine sm_cV (pc := 133) (ci := 9) (n := 3) (mc := 0) (ms := 0) rfl m_X9_fills (cr_X9_217 (X := X_X9_lays) (fr := 20) (frc := 10) (pc := 133) (mc := 0) (ms := 0) rfl (by decide) dX9_lays_133) ?_
    refine sm_aload_n (pc := 136) (n := 0) dX9_lays_136 rfl ?_
    refine gf_X9_56 (pc := 137) rfl dX9_lays_137 ?_
    refine sm_iload_n (pc := 140) (n := 3) dX9_lays_140 rfl ?_
    refine sm_aload_n (pc := 141) (n := 0) dX9_lays_141 rfl ?_
    refine gf_X9_208 (pc := 142) rfl dX9_lays_142 ?_
    refine sm_aload_n (pc := 145) (n := 0) dX9_lays_145 rfl ?_
    refine gf_X9_53 (pc := 146) rfl dX9_lays_146 ?_
    exact scX9_lays_149 P r65 hr65
  · skip
    refine sm_aload_n (pc := 85) (n := 0) dX9_lays_85 rfl ?_
    refine gf_X9_38 (pc := 86) rfl dX9_lays_86 ?_
    refine sm_bipush (pc := 89) dX9_lays_89 zc_b_11 ?_
    refine sm_iload_n (pc := 91) (n := 3) dX9_lays_91 rfl ?_
    refine sm_imul (pc := 92) dX9_lays_92 ?_
    refine sm_iload (pc := 93) (n := 4) dX9_lays_93 ?_
    refine sm_iadd (pc := 95) dX9_lays_95 ?_
    refine sm_aload_n (pc := 96) (n := 0) dX9_lays_96 rfl ?_
    refine sm_aload_n (pc := 97) (n := 0) dX9_lays_97 rfl ?_
    refine sm_iload_n (pc := 98) (n := 3) dX9_lays_98 rfl ?_
    refine sm_cV (pc := 99) (ci := 9) (n := 2) (mc := 0) (ms := 0) rfl m_X9_beadsOf (cr_X9_202 (X := X_X9_lays) (fr := 20) (frc := 2) (pc := 99) (mc := 0) (ms := 0) rfl (by decide) dX9_lays_99) ?_
    refine sm_iload (pc := 102) (n := 4) dX9_lays_102 ?_
    refine sm_iconst (pc := 104) dX9_lays_104 zc_i_0 ?_
    refine sm_cV (pc := 105) (ci := 9) (n := 4) (mc := 0) (ms := 0) rfl m_X9_charOf (cr_X9_191 (X := X_X9_lays) (fr := 20) (frc := 9) (pc := 105) (mc := 0) (ms := 0) rfl (by decide) dX9_lays_105) ?_
    refine sm_iastore (pc := 108) dX9_lays_108 ?_
    refine sm_iinc (pc := 109) (n := 4) dX9_lays_109 zc_i_1 ?_
    refine sm_goto (pc := 112) (tgt := 76) dX9_lays_112 (by decide) ?_
    exact hr76
noncomputable def lX9_lays_65 {d : Nat} (P : zP d) (r65 : zK d) : zK d := (xild 3 (xald 0 (xgfI 25 2 (xcmp tge (xald 0 (xcV 25 1 0 0 f_X9_decomposes (xpI 0 (xist 3 (xloop (fun r225 => (lX9_lays_225 P r225)) 100000))))) (xpI 0 (xist 4 (xloop (fun r76 => (lX9_lays_76 P r65 r76)) 100000)))))))
set_option maxRecDepth 100000 in
set_option maxHeartbeats 4000000 in
theorem slX9_lays_65 {d : Nat} (P : zP d) (r65 : zK d) (hr65 : zSim X_X9_lays 20 P 65 r65) : zSim X_X9_lays 20 P 65 (lX9_lays_65 P r65) := by
  unfold lX9_lays_65
  refine sm_iload_n (pc := 65) (n := 3) dX9_lays_65 rfl ?_
  refine sm_aload_n (pc := 66) (n := 0) dX9_lays_66 rfl ?_
  refine gf_X9_153 (pc := 67) rfl dX9_lays_67 ?_
  refine sm_icmp_ge (pc := 70) (tgt := 219) dX9_lays_70 (by decide) ?_ ?_
  · skip
    refine sm_aload_n (pc := 219) (n := 0) dX9_lays_219 rfl ?_
    refine sm_cV (pc := 220) (ci := 9) (n := 1) (mc := 0) (ms := 0) rfl m_X9_decomposes (cr_X9_278 (X := X_X9_lays) (fr := 20) (frc := 2) (pc := 220) (mc := 0) (ms := 0) rfl (by decide) dX9_lays_220) ?_
    refine sm_iconst (pc := 223) dX9_lays_223 zc_i_0 ?_
    refine sm_istore_n (pc := 224) (n := 3) dX9_lays_224 rfl ?_
    exact sm_loop (fun r225 hr225 => slX9_lays_225 P r225 hr225) _
  · skip
    refine sm_iconst (pc := 73) dX9_lays_73 zc_i_0 ?_
    refine sm_istore (pc := 74) (n := 4) dX9_lays_74 ?_
    exact sm_loop (fun r76 hr76 => slX9_lays_76 P r65 r76 hr65 hr76) _
noncomputable def lX9_lays_43 {d : Nat} (P : zP d) (r43 : zK d) : zK d := (xild 3 (xpI 242 (xcmp tge (xpI 0 (xist 3 (xloop (fun r65 => (lX9_lays_65 P r65)) 100000))) (xald 0 (xgfR 25 39 (xild 3 (xpI 0 (xast1 0 (fun v => v) (xinc 3 1 r43)))))))))
set_option maxRecDepth 100000 in
set_option maxHeartbeats 4000000 in
theorem slX9_lays_43 {d : Nat} (P : zP d) (r43 : zK d) (hr43 : zSim X_X9_lays 20 P 43 r43) : zSim X_X9_lays 20 P 43 (lX9_lays_43 P r43) := by
  unfold lX9_lays_43
  refine sm_iload_n (pc := 43) (n := 3) dX9_lays_43 rfl ?_
  refine sm_sipush (pc := 44) dX9_lays_44 zc_s_242 ?_
  refine sm_icmp_ge (pc := 47) (tgt := 63) dX9_lays_47 (by decide) ?_ ?_
  · skip
    refine sm_iconst (pc := 63) dX9_lays_63 zc_i_0 ?_
    refine sm_istore_n (pc := 64) (n := 3) dX9_lays_64 rfl ?_
    exact sm_loop (fun r65 hr65 => slX9_lays_65 P r65 hr65) _
  · skip
    refine sm_aload_n (pc := 50) (n := 0) dX9_lays_50 rfl ?_
    refine gf_X9_102 (pc := 51) rfl dX9_lays_51 ?_
    refine sm_iload_n (pc := 54) (n := 3) dX9_lays_54 rfl ?_
    refine sm_iconst (pc := 55) dX9_lays_55 zc_i_0 ?_
    refine sm_iastore (pc := 56) dX9_lays_56 ?_
    refine sm_iinc (pc := 57) (n := 3) dX9_lays_57 zc_i_1 ?_
    refine sm_goto (pc := 60) (tgt := 43) dX9_lays_60 (by decide) ?_
    exact hr43
noncomputable def cX9_lays_42 {d : Nat} (P : zP d) : zK d := (xist 3 (xloop (fun r43 => (lX9_lays_43 P r43)) 100000))
set_option maxRecDepth 100000 in
set_option maxHeartbeats 4000000 in
theorem scX9_lays_42 {d : Nat} (P : zP d) : zSim X_X9_lays 20 P 42 (cX9_lays_42 P) := by
  unfold cX9_lays_42
  refine sm_istore_n (pc := 42) (n := 3) dX9_lays_42 rfl ?_
  exact sm_loop (fun r43 hr43 => slX9_lays_43 P r43 hr43) _
noncomputable def b_X9_lays {d : Nat} (P : zP d) : zK d := (xald 0 (xild 1 (xpfI 25 0 (xald 0 (xild 2 (xpfI 25 1 (xald 0 (xpI 0 (xpfI 25 2 (xald 0 (xpI 0 (xald 0 (xgfI 25 0 (xald 0 (xgfI 25 0 (xcV 25 4 0 0 f_X9_grows (xald 0 (xcV 25 1 0 0 f_X9_classes (xald 0 (xcV 25 1 0 0 f_X9_cores (xald 0 (xpI 0 (xpfI 25 23 (xpI 0 (cX9_lays_42 P)))))))))))))))))))))))))
set_option maxRecDepth 100000 in
set_option maxHeartbeats 4000000 in
theorem s_X9_lays {d : Nat} (P : zP d) : zSim X_X9_lays 20 P 0 (b_X9_lays P) := by
  unfold b_X9_lays
  refine sm_aload_n (pc := 0) (n := 0) dX9_lays_0 rfl ?_
  refine sm_iload_n (pc := 1) (n := 1) dX9_lays_1 rfl ?_
  refine pf_X9_169 (pc := 2) rfl dX9_lays_2 ?_
  refine sm_aload_n (pc := 5) (n := 0) dX9_lays_5 rfl ?_
  refine sm_iload_n (pc := 6) (n := 2) dX9_lays_6 rfl ?_
  refine pf_X9_184 (pc := 7) rfl dX9_lays_7 ?_
  refine sm_aload_n (pc := 10) (n := 0) dX9_lays_10 rfl ?_
  refine sm_iconst (pc := 11) dX9_lays_11 zc_i_0 ?_
  refine pf_X9_153 (pc := 12) rfl dX9_lays_12 ?_
  refine sm_aload_n (pc := 15) (n := 0) dX9_lays_15 rfl ?_
  refine sm_iconst (pc := 16) dX9_lays_16 zc_i_0 ?_
  refine sm_aload_n (pc := 17) (n := 0) dX9_lays_17 rfl ?_
  refine gf_X9_169 (pc := 18) rfl dX9_lays_18 ?_
  refine sm_aload_n (pc := 21) (n := 0) dX9_lays_21 rfl ?_
  refine gf_X9_169 (pc := 22) rfl dX9_lays_22 ?_
  refine sm_cV (pc := 25) (ci := 9) (n := 4) (mc := 0) (ms := 0) rfl m_X9_grows (cr_X9_162 (X := X_X9_lays) (fr := 20) (frc := 9) (pc := 25) (mc := 0) (ms := 0) rfl (by decide) dX9_lays_25) ?_
  refine sm_aload_n (pc := 28) (n := 0) dX9_lays_28 rfl ?_
  refine sm_cV (pc := 29) (ci := 9) (n := 1) (mc := 0) (ms := 0) rfl m_X9_classes (cr_X9_266 (X := X_X9_lays) (fr := 20) (frc := 2) (pc := 29) (mc := 0) (ms := 0) rfl (by decide) dX9_lays_29) ?_
  refine sm_aload_n (pc := 32) (n := 0) dX9_lays_32 rfl ?_
  refine sm_cV (pc := 33) (ci := 9) (n := 1) (mc := 0) (ms := 0) rfl m_X9_cores (cr_X9_269 (X := X_X9_lays) (fr := 20) (frc := 3) (pc := 33) (mc := 0) (ms := 0) rfl (by decide) dX9_lays_33) ?_
  refine sm_aload_n (pc := 36) (n := 0) dX9_lays_36 rfl ?_
  refine sm_iconst (pc := 37) dX9_lays_37 zc_i_0 ?_
  refine pf_X9_208 (pc := 38) rfl dX9_lays_38 ?_
  refine sm_iconst (pc := 41) dX9_lays_41 zc_i_0 ?_
  exact scX9_lays_42 P
noncomputable def f_X9_lays {d : Nat} : List zV → zH d → zP d → Bool := zfn 7 b_X9_lays
theorem m_X9_lays {d : Nat} : zMet (d := d) X_X9_lays yX9_lays 20 f_X9_lays := zmet_mk (X := X_X9_lays) (by decide) rfl rfl s_X9_lays

abbrev X_X9_init : zM := (RX9, cX9_init, 1, none, "<init>")
noncomputable def cX9_init_342 {d : Nat} (P : zP d) : zK d := (xpfR 25 57 (xald 0 (xpI 11 (xnwa 2 (xpfR 25 58 (xald 0 (xpI 6 (xnwa 0 (xpfR 25 60 (xald 0 (xpI 6 (xnwa 0 (xpfR 25 62 (xald 0 (xpI 3 (xpI 2 (xcV 25 3 0 0 f_X9_lays (xvret P))))))))))))))))))
set_option maxRecDepth 100000 in
set_option maxHeartbeats 4000000 in
theorem scX9_init_342 {d : Nat} (P : zP d) : zSim X_X9_init 21 P 342 (cX9_init_342 P) := by
  unfold cX9_init_342
  refine pf_X9_137 (pc := 342) rfl rfl dX9_init_342 ?_
  refine sm_aload_n (pc := 345) (n := 0) dX9_init_345 rfl ?_
  refine sm_bipush (pc := 346) dX9_init_346 zc_b_11 ?_
  refine sm_newJ (pc := 348) dX9_init_348 wd_45 ?_
  refine pf_X9_140 (pc := 350) rfl rfl dX9_init_350 ?_
  refine sm_aload_n (pc := 353) (n := 0) dX9_init_353 rfl ?_
  refine sm_bipush (pc := 354) dX9_init_354 zc_b_6 ?_
  refine sm_newI (pc := 356) dX9_init_356 wd_46 ?_
  refine pf_X9_143 (pc := 358) rfl rfl dX9_init_358 ?_
  refine sm_aload_n (pc := 361) (n := 0) dX9_init_361 rfl ?_
  refine sm_bipush (pc := 362) dX9_init_362 zc_b_6 ?_
  refine sm_newI (pc := 364) dX9_init_364 wd_46 ?_
  refine pf_X9_146 (pc := 366) rfl rfl dX9_init_366 ?_
  refine sm_aload_n (pc := 369) (n := 0) dX9_init_369 rfl ?_
  refine sm_iconst (pc := 370) dX9_init_370 zc_i_3 ?_
  refine sm_iconst (pc := 371) dX9_init_371 zc_i_2 ?_
  refine sm_cV (pc := 372) (ci := 9) (n := 3) (mc := 0) (ms := 0) rfl m_X9_lays (cr_X9_149 (X := X_X9_init) (fr := 21) (frc := 20) (pc := 372) (mc := 0) (ms := 0) rfl (by decide) dX9_init_372) ?_
  exact sm_vreturn (pc := 375) dX9_init_375 rfl
noncomputable def cX9_init_294 {d : Nat} (P : zP d) : zK d := (xnwa 2 (xpfR 25 44 (xald 0 (xpI 200 (xnwa 0 (xpfR 25 45 (xald 0 (xpI 4294967295 (xpfI 25 49 (xald 0 (xpI 20 (xnwa 0 (xpfR 25 51 (xald 0 (xpI 20 (xnwa 0 (xpfR 25 52 (xald 0 (xpI 55 (xnwa 2 (xpfR 25 56 (xald 0 (xpI 55 (xnwa 2 (cX9_init_342 P)))))))))))))))))))))))))
set_option maxRecDepth 100000 in
set_option maxHeartbeats 4000000 in
theorem scX9_init_294 {d : Nat} (P : zP d) : zSim X_X9_init 21 P 294 (cX9_init_294 P) := by
  unfold cX9_init_294
  refine sm_newJ (pc := 294) dX9_init_294 wd_45 ?_
  refine pf_X9_118 (pc := 296) rfl rfl dX9_init_296 ?_
  refine sm_aload_n (pc := 299) (n := 0) dX9_init_299 rfl ?_
  refine sm_sipush (pc := 300) dX9_init_300 zc_s_200 ?_
  refine sm_newI (pc := 303) dX9_init_303 wd_46 ?_
  refine pf_X9_121 (pc := 305) rfl rfl dX9_init_305 ?_
  refine sm_aload_n (pc := 308) (n := 0) dX9_init_308 rfl ?_
  refine sm_iconst (pc := 309) dX9_init_309 zc_i_m1 ?_
  refine pf_X9_124 (pc := 310) rfl dX9_init_310 ?_
  refine sm_aload_n (pc := 313) (n := 0) dX9_init_313 rfl ?_
  refine sm_bipush (pc := 314) dX9_init_314 zc_b_20 ?_
  refine sm_newI (pc := 316) dX9_init_316 wd_46 ?_
  refine pf_X9_128 (pc := 318) rfl rfl dX9_init_318 ?_
  refine sm_aload_n (pc := 321) (n := 0) dX9_init_321 rfl ?_
  refine sm_bipush (pc := 322) dX9_init_322 zc_b_20 ?_
  refine sm_newI (pc := 324) dX9_init_324 wd_46 ?_
  refine pf_X9_131 (pc := 326) rfl rfl dX9_init_326 ?_
  refine sm_aload_n (pc := 329) (n := 0) dX9_init_329 rfl ?_
  refine sm_bipush (pc := 330) dX9_init_330 zc_b_55 ?_
  refine sm_newJ (pc := 332) dX9_init_332 wd_45 ?_
  refine pf_X9_134 (pc := 334) rfl rfl dX9_init_334 ?_
  refine sm_aload_n (pc := 337) (n := 0) dX9_init_337 rfl ?_
  refine sm_bipush (pc := 338) dX9_init_338 zc_b_55 ?_
  refine sm_newJ (pc := 340) dX9_init_340 wd_45 ?_
  exact scX9_init_342 P
noncomputable def cX9_init_245 {d : Nat} (P : zP d) : zK d := (xnwa 0 (xpfR 25 38 (xald 0 (xpI 242 (xnwa 0 (xpfR 25 39 (xald 0 (xpI 121 (xnwa 0 (xpfR 25 40 (xald 0 (xpI 121 (xnwa 2 (xpfR 25 41 (xald 0 (xpI 11 (xnwa 0 (xpfR 25 42 (xald 0 (xpI 66 (xnwa 2 (xpfR 25 43 (xald 0 (xpI 11 (cX9_init_294 P)))))))))))))))))))))))))
set_option maxRecDepth 100000 in
set_option maxHeartbeats 4000000 in
theorem scX9_init_245 {d : Nat} (P : zP d) : zSim X_X9_init 21 P 245 (cX9_init_245 P) := by
  unfold cX9_init_245
  refine sm_newI (pc := 245) dX9_init_245 wd_46 ?_
  refine pf_X9_99 (pc := 247) rfl rfl dX9_init_247 ?_
  refine sm_aload_n (pc := 250) (n := 0) dX9_init_250 rfl ?_
  refine sm_sipush (pc := 251) dX9_init_251 zc_s_242 ?_
  refine sm_newI (pc := 254) dX9_init_254 wd_46 ?_
  refine pf_X9_102 (pc := 256) rfl rfl dX9_init_256 ?_
  refine sm_aload_n (pc := 259) (n := 0) dX9_init_259 rfl ?_
  refine sm_bipush (pc := 260) dX9_init_260 zc_b_121 ?_
  refine sm_newI (pc := 262) dX9_init_262 wd_46 ?_
  refine pf_X9_105 (pc := 264) rfl rfl dX9_init_264 ?_
  refine sm_aload_n (pc := 267) (n := 0) dX9_init_267 rfl ?_
  refine sm_bipush (pc := 268) dX9_init_268 zc_b_121 ?_
  refine sm_newJ (pc := 270) dX9_init_270 wd_45 ?_
  refine pf_X9_108 (pc := 272) rfl rfl dX9_init_272 ?_
  refine sm_aload_n (pc := 275) (n := 0) dX9_init_275 rfl ?_
  refine sm_bipush (pc := 276) dX9_init_276 zc_b_11 ?_
  refine sm_newI (pc := 278) dX9_init_278 wd_46 ?_
  refine pf_X9_112 (pc := 280) rfl rfl dX9_init_280 ?_
  refine sm_aload_n (pc := 283) (n := 0) dX9_init_283 rfl ?_
  refine sm_bipush (pc := 284) dX9_init_284 zc_b_66 ?_
  refine sm_newJ (pc := 286) dX9_init_286 wd_45 ?_
  refine pf_X9_115 (pc := 288) rfl rfl dX9_init_288 ?_
  refine sm_aload_n (pc := 291) (n := 0) dX9_init_291 rfl ?_
  refine sm_bipush (pc := 292) dX9_init_292 zc_b_11 ?_
  exact scX9_init_294 P
noncomputable def cX9_init_195 {d : Nat} (P : zP d) : zK d := (xnwa 0 (xpfR 25 32 (xald 0 (xpI 7 (xnwa 0 (xpfR 25 33 (xald 0 (xpI 256 (xnwa 0 (xpfR 25 34 (xald 0 (xpI 2816 (xnwa 0 (xpfR 25 35 (xald 0 (xpI 11 (xnwa 0 (xpfR 25 36 (xald 0 (xpI 121 (xnwa 0 (xpfR 25 37 (xald 0 (xpI 121 (cX9_init_245 P)))))))))))))))))))))))))
set_option maxRecDepth 100000 in
set_option maxHeartbeats 4000000 in
theorem scX9_init_195 {d : Nat} (P : zP d) : zSim X_X9_init 21 P 195 (cX9_init_195 P) := by
  unfold cX9_init_195
  refine sm_newI (pc := 195) dX9_init_195 wd_46 ?_
  refine pf_X9_81 (pc := 197) rfl rfl dX9_init_197 ?_
  refine sm_aload_n (pc := 200) (n := 0) dX9_init_200 rfl ?_
  refine sm_bipush (pc := 201) dX9_init_201 zc_b_7 ?_
  refine sm_newI (pc := 203) dX9_init_203 wd_46 ?_
  refine pf_X9_84 (pc := 205) rfl rfl dX9_init_205 ?_
  refine sm_aload_n (pc := 208) (n := 0) dX9_init_208 rfl ?_
  refine sm_sipush (pc := 209) dX9_init_209 zc_s_256 ?_
  refine sm_newI (pc := 212) dX9_init_212 wd_46 ?_
  refine pf_X9_87 (pc := 214) rfl rfl dX9_init_214 ?_
  refine sm_aload_n (pc := 217) (n := 0) dX9_init_217 rfl ?_
  refine sm_sipush (pc := 218) dX9_init_218 zc_s_2816 ?_
  refine sm_newI (pc := 221) dX9_init_221 wd_46 ?_
  refine pf_X9_90 (pc := 223) rfl rfl dX9_init_223 ?_
  refine sm_aload_n (pc := 226) (n := 0) dX9_init_226 rfl ?_
  refine sm_bipush (pc := 227) dX9_init_227 zc_b_11 ?_
  refine sm_newI (pc := 229) dX9_init_229 wd_46 ?_
  refine pf_X9_93 (pc := 231) rfl rfl dX9_init_231 ?_
  refine sm_aload_n (pc := 234) (n := 0) dX9_init_234 rfl ?_
  refine sm_bipush (pc := 235) dX9_init_235 zc_b_121 ?_
  refine sm_newI (pc := 237) dX9_init_237 wd_46 ?_
  refine pf_X9_96 (pc := 239) rfl rfl dX9_init_239 ?_
  refine sm_aload_n (pc := 242) (n := 0) dX9_init_242 rfl ?_
  refine sm_bipush (pc := 243) dX9_init_243 zc_b_121 ?_
  exact scX9_init_245 P
noncomputable def cX9_init_144 {d : Nat} (P : zP d) : zK d := (xnwa 0 (xpfR 25 24 (xald 0 (xpI 46656 (xnwa 0 (xpfR 25 26 (xald 0 (xpI 720 (xnwa 0 (xpfR 25 27 (xald 0 (xpI 12000 (xnwa 0 (xpfR 25 29 (xald 0 (xpI 12000 (xnwa 0 (xpfR 25 30 (xald 0 (xpI 6 (xnwa 0 (xpfR 25 31 (xald 0 (xpI 7 (cX9_init_195 P)))))))))))))))))))))))))
set_option maxRecDepth 100000 in
set_option maxHeartbeats 4000000 in
theorem scX9_init_144 {d : Nat} (P : zP d) : zSim X_X9_init 21 P 144 (cX9_init_144 P) := by
  unfold cX9_init_144
  refine sm_newI (pc := 144) dX9_init_144 wd_46 ?_
  refine pf_X9_62 (pc := 146) rfl rfl dX9_init_146 ?_
  refine sm_aload_n (pc := 149) (n := 0) dX9_init_149 rfl ?_
  refine sm_ldc (pc := 150) dX9_init_150 wd_908 zc_c_46656 ?_
  refine sm_newI (pc := 152) dX9_init_152 wd_46 ?_
  refine pf_X9_66 (pc := 154) rfl rfl dX9_init_154 ?_
  refine sm_aload_n (pc := 157) (n := 0) dX9_init_157 rfl ?_
  refine sm_sipush (pc := 158) dX9_init_158 zc_s_720 ?_
  refine sm_newI (pc := 161) dX9_init_161 wd_46 ?_
  refine pf_X9_69 (pc := 163) rfl rfl dX9_init_163 ?_
  refine sm_aload_n (pc := 166) (n := 0) dX9_init_166 rfl ?_
  refine sm_sipush (pc := 167) dX9_init_167 zc_s_12000 ?_
  refine sm_newI (pc := 170) dX9_init_170 wd_46 ?_
  refine pf_X9_72 (pc := 172) rfl rfl dX9_init_172 ?_
  refine sm_aload_n (pc := 175) (n := 0) dX9_init_175 rfl ?_
  refine sm_sipush (pc := 176) dX9_init_176 zc_s_12000 ?_
  refine sm_newI (pc := 179) dX9_init_179 wd_46 ?_
  refine pf_X9_75 (pc := 181) rfl rfl dX9_init_181 ?_
  refine sm_aload_n (pc := 184) (n := 0) dX9_init_184 rfl ?_
  refine sm_bipush (pc := 185) dX9_init_185 zc_b_6 ?_
  refine sm_newI (pc := 187) dX9_init_187 wd_46 ?_
  refine pf_X9_78 (pc := 189) rfl rfl dX9_init_189 ?_
  refine sm_aload_n (pc := 192) (n := 0) dX9_init_192 rfl ?_
  refine sm_bipush (pc := 193) dX9_init_193 zc_b_7 ?_
  exact scX9_init_195 P
noncomputable def cX9_init_95 {d : Nat} (P : zP d) : zK d := (xnwa 0 (xpfR 25 16 (xald 0 (xpI 11 (xnwa 0 (xpfR 25 17 (xald 0 (xpI 11 (xnwa 0 (xpfR 25 19 (xald 0 (xpI 11 (xnwa 0 (xpfR 25 20 (xald 0 (xpI 11 (xnwa 0 (xpfR 25 21 (xald 0 (xpI 456 (xnwa 0 (xpfR 25 22 (xald 0 (xpI 6 (cX9_init_144 P)))))))))))))))))))))))))
set_option maxRecDepth 100000 in
set_option maxHeartbeats 4000000 in
theorem scX9_init_95 {d : Nat} (P : zP d) : zSim X_X9_init 21 P 95 (cX9_init_95 P) := by
  unfold cX9_init_95
  refine sm_newI (pc := 95) dX9_init_95 wd_46 ?_
  refine pf_X9_44 (pc := 97) rfl rfl dX9_init_97 ?_
  refine sm_aload_n (pc := 100) (n := 0) dX9_init_100 rfl ?_
  refine sm_bipush (pc := 101) dX9_init_101 zc_b_11 ?_
  refine sm_newI (pc := 103) dX9_init_103 wd_46 ?_
  refine pf_X9_47 (pc := 105) rfl rfl dX9_init_105 ?_
  refine sm_aload_n (pc := 108) (n := 0) dX9_init_108 rfl ?_
  refine sm_bipush (pc := 109) dX9_init_109 zc_b_11 ?_
  refine sm_newI (pc := 111) dX9_init_111 wd_46 ?_
  refine pf_X9_50 (pc := 113) rfl rfl dX9_init_113 ?_
  refine sm_aload_n (pc := 116) (n := 0) dX9_init_116 rfl ?_
  refine sm_bipush (pc := 117) dX9_init_117 zc_b_11 ?_
  refine sm_newI (pc := 119) dX9_init_119 wd_46 ?_
  refine pf_X9_53 (pc := 121) rfl rfl dX9_init_121 ?_
  refine sm_aload_n (pc := 124) (n := 0) dX9_init_124 rfl ?_
  refine sm_bipush (pc := 125) dX9_init_125 zc_b_11 ?_
  refine sm_newI (pc := 127) dX9_init_127 wd_46 ?_
  refine pf_X9_56 (pc := 129) rfl rfl dX9_init_129 ?_
  refine sm_aload_n (pc := 132) (n := 0) dX9_init_132 rfl ?_
  refine sm_sipush (pc := 133) dX9_init_133 zc_s_456 ?_
  refine sm_newI (pc := 136) dX9_init_136 wd_46 ?_
  refine pf_X9_59 (pc := 138) rfl rfl dX9_init_138 ?_
  refine sm_aload_n (pc := 141) (n := 0) dX9_init_141 rfl ?_
  refine sm_bipush (pc := 142) dX9_init_142 zc_b_6 ?_
  exact scX9_init_144 P
noncomputable def cX9_init_47 {d : Nat} (P : zP d) : zK d := (xnwa 1 (xpfR 25 8 (xald 0 (xpI 11 (xnwa 0 (xpfR 25 9 (xald 0 (xpI 11 (xnwa 0 (xpfR 25 10 (xald 0 (xpI 6 (xnwa 0 (xpfR 25 13 (xald 0 (xpI 121 (xnwa 0 (xpfR 25 14 (xald 0 (xpI 11 (xnwa 0 (xpfR 25 15 (xald 0 (xpI 11 (cX9_init_95 P)))))))))))))))))))))))))
set_option maxRecDepth 100000 in
set_option maxHeartbeats 4000000 in
theorem scX9_init_47 {d : Nat} (P : zP d) : zSim X_X9_init 21 P 47 (cX9_init_47 P) := by
  unfold cX9_init_47
  refine sm_newZ (pc := 47) dX9_init_47 wd_360 ?_
  refine pf_X9_26 (pc := 49) rfl rfl dX9_init_49 ?_
  refine sm_aload_n (pc := 52) (n := 0) dX9_init_52 rfl ?_
  refine sm_bipush (pc := 53) dX9_init_53 zc_b_11 ?_
  refine sm_newI (pc := 55) dX9_init_55 wd_46 ?_
  refine pf_X9_29 (pc := 57) rfl rfl dX9_init_57 ?_
  refine sm_aload_n (pc := 60) (n := 0) dX9_init_60 rfl ?_
  refine sm_bipush (pc := 61) dX9_init_61 zc_b_11 ?_
  refine sm_newI (pc := 63) dX9_init_63 wd_46 ?_
  refine pf_X9_32 (pc := 65) rfl rfl dX9_init_65 ?_
  refine sm_aload_n (pc := 68) (n := 0) dX9_init_68 rfl ?_
  refine sm_bipush (pc := 69) dX9_init_69 zc_b_6 ?_
  refine sm_newI (pc := 71) dX9_init_71 wd_46 ?_
  refine pf_X9_35 (pc := 73) rfl rfl dX9_init_73 ?_
  refine sm_aload_n (pc := 76) (n := 0) dX9_init_76 rfl ?_
  refine sm_bipush (pc := 77) dX9_init_77 zc_b_121 ?_
  refine sm_newI (pc := 79) dX9_init_79 wd_46 ?_
  refine pf_X9_38 (pc := 81) rfl rfl dX9_init_81 ?_
  refine sm_aload_n (pc := 84) (n := 0) dX9_init_84 rfl ?_
  refine sm_bipush (pc := 85) dX9_init_85 zc_b_11 ?_
  refine sm_newI (pc := 87) dX9_init_87 wd_46 ?_
  refine pf_X9_41 (pc := 89) rfl rfl dX9_init_89 ?_
  refine sm_aload_n (pc := 92) (n := 0) dX9_init_92 rfl ?_
  refine sm_bipush (pc := 93) dX9_init_93 zc_b_11 ?_
  exact scX9_init_95 P
noncomputable def b_X9_init {d : Nat} (P : zP d) : zK d := (xald 0 (xobj (xald 0 (xpI 66 (xnwa 0 (xpfR 25 3 (xald 0 (xpI 11 (xnwa 0 (xpfR 25 4 (xald 0 (xpI 11 (xnwa 0 (xpfR 25 5 (xald 0 (xpI 11 (xnwa 0 (xpfR 25 6 (xald 0 (xpI 11 (xnwa 1 (xpfR 25 7 (xald 0 (xpI 11 (cX9_init_47 P)))))))))))))))))))))))))
set_option maxRecDepth 100000 in
set_option maxHeartbeats 4000000 in
theorem s_X9_init {d : Nat} (P : zP d) : zSim X_X9_init 21 P 0 (b_X9_init P) := by
  unfold b_X9_init
  refine sm_aload_n (pc := 0) (n := 0) dX9_init_0 rfl ?_
  refine sm_objinit (pc := 1) wd_907 wd_21 wd_22 (by decide) dX9_init_1 ?_
  refine sm_aload_n (pc := 4) (n := 0) dX9_init_4 rfl ?_
  refine sm_bipush (pc := 5) dX9_init_5 zc_b_66 ?_
  refine sm_newI (pc := 7) dX9_init_7 wd_46 ?_
  refine pf_X9_7 (pc := 9) rfl rfl dX9_init_9 ?_
  refine sm_aload_n (pc := 12) (n := 0) dX9_init_12 rfl ?_
  refine sm_bipush (pc := 13) dX9_init_13 zc_b_11 ?_
  refine sm_newI (pc := 15) dX9_init_15 wd_46 ?_
  refine pf_X9_13 (pc := 17) rfl rfl dX9_init_17 ?_
  refine sm_aload_n (pc := 20) (n := 0) dX9_init_20 rfl ?_
  refine sm_bipush (pc := 21) dX9_init_21 zc_b_11 ?_
  refine sm_newI (pc := 23) dX9_init_23 wd_46 ?_
  refine pf_X9_16 (pc := 25) rfl rfl dX9_init_25 ?_
  refine sm_aload_n (pc := 28) (n := 0) dX9_init_28 rfl ?_
  refine sm_bipush (pc := 29) dX9_init_29 zc_b_11 ?_
  refine sm_newI (pc := 31) dX9_init_31 wd_46 ?_
  refine pf_X9_19 (pc := 33) rfl rfl dX9_init_33 ?_
  refine sm_aload_n (pc := 36) (n := 0) dX9_init_36 rfl ?_
  refine sm_bipush (pc := 37) dX9_init_37 zc_b_11 ?_
  refine sm_newZ (pc := 39) dX9_init_39 wd_360 ?_
  refine pf_X9_22 (pc := 41) rfl rfl dX9_init_41 ?_
  refine sm_aload_n (pc := 44) (n := 0) dX9_init_44 rfl ?_
  refine sm_bipush (pc := 45) dX9_init_45 zc_b_11 ?_
  exact scX9_init_47 P
noncomputable def f_X9_init {d : Nat} : List zV → zH d → zP d → Bool := zfn 1 b_X9_init
theorem m_X9_init {d : Nat} : zMet (d := d) X_X9_init yX9_init 21 f_X9_init := zmet_mk (X := X_X9_init) (by decide) rfl rfl s_X9_init

abbrev X_X9_group : zM := (RX9, cX9_group, 3, (some .int), "group")
noncomputable def bX9_group_33 {d : Nat} (P : zP d) : zK d := (xpI 4294967295 (xiret P))
set_option maxRecDepth 100000 in
set_option maxHeartbeats 4000000 in
theorem sbX9_group_33 {d : Nat} (P : zP d) : zSim X_X9_group 21 P 33 (bX9_group_33 P) := by
  unfold bX9_group_33
  refine sm_iconst (pc := 33) dX9_group_33 zc_i_m1 ?_
  exact sm_ireturn (pc := 34) dX9_group_34 rfl
noncomputable def bX9_group_35 {d : Nat} (P : zP d) : zK d := (xald 0 (xild 1 (xild 2 (xcV 25 3 0 0 f_X9_lays (xald 0 (xgfI 25 2 (xiret P)))))))
set_option maxRecDepth 100000 in
set_option maxHeartbeats 4000000 in
theorem sbX9_group_35 {d : Nat} (P : zP d) : zSim X_X9_group 21 P 35 (bX9_group_35 P) := by
  unfold bX9_group_35
  refine sm_aload_n (pc := 35) (n := 0) dX9_group_35 rfl ?_
  refine sm_iload_n (pc := 36) (n := 1) dX9_group_36 rfl ?_
  refine sm_iload_n (pc := 37) (n := 2) dX9_group_37 rfl ?_
  refine sm_cV (pc := 38) (ci := 9) (n := 3) (mc := 0) (ms := 0) rfl m_X9_lays (cr_X9_149 (X := X_X9_group) (fr := 21) (frc := 20) (pc := 38) (mc := 0) (ms := 0) rfl (by decide) dX9_group_38) ?_
  refine sm_aload_n (pc := 41) (n := 0) dX9_group_41 rfl ?_
  refine gf_X9_153 (pc := 42) rfl dX9_group_42 ?_
  exact sm_ireturn (pc := 45) dX9_group_45 rfl
noncomputable def b_X9_group {d : Nat} (P : zP d) : zK d := (xild 1 (xi2l (xpL 1 (xpL 6 (xcS 3 0 0 f_X9_isIn (xjoin (bX9_group_33 P) (fun j33 => (xif0 t0eq j33 (xild 2 (xpI 2 (xjoin (bX9_group_35 P) (fun j35 => (xcmp Nat.beq j35 (xild 2 (xpI 3 (xcmp Nat.beq j35 (xild 2 (xpI 5 (xcmp Nat.beq j35 (xild 2 (xpI 7 (xcmp Nat.beq j35 j33))))))))))))))))))))))
set_option maxRecDepth 100000 in
set_option maxHeartbeats 4000000 in
theorem s_X9_group {d : Nat} (P : zP d) : zSim X_X9_group 21 P 0 (b_X9_group P) := by
  unfold b_X9_group
  refine sm_iload_n (pc := 0) (n := 1) dX9_group_0 rfl ?_
  refine sm_i2l (pc := 1) dX9_group_1 ?_
  refine sm_lconst (pc := 2) dX9_group_2 zc_l_1 ?_
  refine sm_ldc2 (pc := 3) dX9_group_3 wd_1212 zc_cl_6 ?_
  refine sm_cS (pc := 6) (n := 3) (mc := 0) (ms := 0) m_X9_isIn (cr_X9_283 (X := X_X9_group) (fr := 21) (frc := 1) (pc := 6) (mc := 0) (ms := 0) rfl (by decide) dX9_group_6) ?_
  refine sm_join (pc := 9) (pc' := 33) (sbX9_group_33 P) (fun j33 hj33 => ?_)
  refine sm_if_eq (pc := 9) (tgt := 33) dX9_group_9 (by decide) ?_ ?_
  · skip
    exact hj33
  · skip
    refine sm_iload_n (pc := 12) (n := 2) dX9_group_12 rfl ?_
    refine sm_iconst (pc := 13) dX9_group_13 zc_i_2 ?_
    refine sm_join (pc := 14) (pc' := 35) (sbX9_group_35 P) (fun j35 hj35 => ?_)
    refine sm_icmp_eq (pc := 14) (tgt := 35) dX9_group_14 (by decide) ?_ ?_
    · skip
      exact hj35
    · skip
      refine sm_iload_n (pc := 17) (n := 2) dX9_group_17 rfl ?_
      refine sm_iconst (pc := 18) dX9_group_18 zc_i_3 ?_
      refine sm_icmp_eq (pc := 19) (tgt := 35) dX9_group_19 (by decide) ?_ ?_
      · skip
        exact hj35
      · skip
        refine sm_iload_n (pc := 22) (n := 2) dX9_group_22 rfl ?_
        refine sm_iconst (pc := 23) dX9_group_23 zc_i_5 ?_
        refine sm_icmp_eq (pc := 24) (tgt := 35) dX9_group_24 (by decide) ?_ ?_
        · skip
          exact hj35
        · skip
          refine sm_iload_n (pc := 27) (n := 2) dX9_group_27 rfl ?_
          refine sm_bipush (pc := 28) dX9_group_28 zc_b_7 ?_
          refine sm_icmp_eq (pc := 30) (tgt := 35) dX9_group_30 (by decide) ?_ ?_
          · skip
            exact hj35
          · skip
            exact hj33
noncomputable def f_X9_group {d : Nat} : List zV → zH d → zP d → Bool := zfn 3 b_X9_group
theorem m_X9_group {d : Nat} : zMet (d := d) X_X9_group yX9_group 21 f_X9_group := zmet_mk (X := X_X9_group) (by decide) rfl rfl s_X9_group
