/-! the reference, by program -/
abbrev X_X9_begins : zM := (RX9, cX9_begins, 3, none, "begins")
noncomputable def lX9_begins_40 {d : Nat} (P : zP d) (r40 : zK d) : zK d := (xild 2 (xald 0 (xgfI 25 0 (xcmp tle (xald 0 (xgfR 25 33 (xild 2 (xild 2 (xast1 0 (fun v => v) (xinc 2 1 r40)))))) (xald 0 (xald 0 (xgfR 25 29 (xcV 25 2 0 0 g_X9_sumsOf (xvret P)))))))))
set_option maxRecDepth 100000 in
set_option maxHeartbeats 4000000 in
theorem slX9_begins_40 {d : Nat} [zGh] (P : zP d) (r40 : zK d) (hr40 : zSim X_X9_begins 18 P 40 r40) : zSim X_X9_begins 18 P 40 (lX9_begins_40 P r40) := by
  unfold lX9_begins_40
  refine sm_iload_n (pc := 40) (n := 2) dX9_begins_40 rfl ?_
  refine sm_aload_n (pc := 41) (n := 0) dX9_begins_41 rfl ?_
  refine gf_X9_169 (pc := 42) rfl dX9_begins_42 ?_
  refine sm_icmp_gt (pc := 45) (tgt := 61) dX9_begins_45 (by decide) ?_ ?_
  · skip
    refine sm_aload_n (pc := 61) (n := 0) dX9_begins_61 rfl ?_
    refine sm_aload_n (pc := 62) (n := 0) dX9_begins_62 rfl ?_
    refine gf_X9_72 (pc := 63) rfl dX9_begins_63 ?_
    refine sm_cV (pc := 66) (ci := 9) (n := 2) (mc := 0) (ms := 0) rfl mg_X9_sumsOf (cr_X9_234 (X := X_X9_begins) (fr := 18) (frc := 17) (pc := 66) (mc := 0) (ms := 0) rfl (by decide) dX9_begins_66) ?_
    exact sm_vreturn (pc := 69) dX9_begins_69 rfl
  · skip
    refine sm_aload_n (pc := 48) (n := 0) dX9_begins_48 rfl ?_
    refine gf_X9_84 (pc := 49) rfl dX9_begins_49 ?_
    refine sm_iload_n (pc := 52) (n := 2) dX9_begins_52 rfl ?_
    refine sm_iload_n (pc := 53) (n := 2) dX9_begins_53 rfl ?_
    refine sm_iastore (pc := 54) dX9_begins_54 ?_
    refine sm_iinc (pc := 55) (n := 2) dX9_begins_55 zc_i_1 ?_
    refine sm_goto (pc := 58) (tgt := 40) dX9_begins_58 (by decide) ?_
    exact hr40
noncomputable def lX9_begins_2 {d : Nat} (P : zP d) (r2 : zK d) : zK d := (xild 2 (xald 0 (xgfI 25 28 (xcmp tge (xald 0 (xpI 0 (xpfI 25 28 (xald 0 (xild 1 (xpfI 25 25 (xpI 1 (xist 2 (xloop (fun r40 => (lX9_begins_40 P r40)) 100000))))))))) (xald 0 (xgfR 25 26 (xald 0 (xgfR 25 27 (xild 2 (xald1 0 (xpI 0 (xast1 0 (fun v => v) (xinc 2 1 r2)))))))))))))
set_option maxRecDepth 100000 in
set_option maxHeartbeats 4000000 in
theorem slX9_begins_2 {d : Nat} [zGh] (P : zP d) (r2 : zK d) (hr2 : zSim X_X9_begins 18 P 2 r2) : zSim X_X9_begins 18 P 2 (lX9_begins_2 P r2) := by
  unfold lX9_begins_2
  refine sm_iload_n (pc := 2) (n := 2) dX9_begins_2 rfl ?_
  refine sm_aload_n (pc := 3) (n := 0) dX9_begins_3 rfl ?_
  refine gf_X9_220 (pc := 4) rfl dX9_begins_4 ?_
  refine sm_icmp_ge (pc := 7) (tgt := 28) dX9_begins_7 (by decide) ?_ ?_
  · skip
    refine sm_aload_n (pc := 28) (n := 0) dX9_begins_28 rfl ?_
    refine sm_iconst (pc := 29) dX9_begins_29 zc_i_0 ?_
    refine pf_X9_220 (pc := 30) rfl dX9_begins_30 ?_
    refine sm_aload_n (pc := 33) (n := 0) dX9_begins_33 rfl ?_
    refine sm_iload_n (pc := 34) (n := 1) dX9_begins_34 rfl ?_
    refine pf_X9_205 (pc := 35) rfl dX9_begins_35 ?_
    refine sm_iconst (pc := 38) dX9_begins_38 zc_i_1 ?_
    refine sm_istore_n (pc := 39) (n := 2) dX9_begins_39 rfl ?_
    exact sm_loop (fun r40 hr40 => slX9_begins_40 P r40 hr40) _
  · skip
    refine sm_aload_n (pc := 10) (n := 0) dX9_begins_10 rfl ?_
    refine gf_X9_66 (pc := 11) rfl dX9_begins_11 ?_
    refine sm_aload_n (pc := 14) (n := 0) dX9_begins_14 rfl ?_
    refine gf_X9_69 (pc := 15) rfl dX9_begins_15 ?_
    refine sm_iload_n (pc := 18) (n := 2) dX9_begins_18 rfl ?_
    refine sm_iaload (pc := 19) dX9_begins_19 ?_
    refine sm_iconst (pc := 20) dX9_begins_20 zc_i_0 ?_
    refine sm_iastore (pc := 21) dX9_begins_21 ?_
    refine sm_iinc (pc := 22) (n := 2) dX9_begins_22 zc_i_1 ?_
    refine sm_goto (pc := 25) (tgt := 2) dX9_begins_25 (by decide) ?_
    exact hr2
noncomputable def b_X9_begins {d : Nat} (P : zP d) : zK d := (xpI 0 (xist 2 (xloop (fun r2 => (lX9_begins_2 P r2)) 100000)))
set_option maxRecDepth 100000 in
set_option maxHeartbeats 4000000 in
theorem s_X9_begins {d : Nat} [zGh] (P : zP d) : zSim X_X9_begins 18 P 0 (b_X9_begins P) := by
  unfold b_X9_begins
  refine sm_iconst (pc := 0) dX9_begins_0 zc_i_0 ?_
  refine sm_istore_n (pc := 1) (n := 2) dX9_begins_1 rfl ?_
  exact sm_loop (fun r2 hr2 => slX9_begins_2 P r2 hr2) _
noncomputable def f_X9_begins {d : Nat} : List zV → zH d → zP d → Bool := zfn 3 b_X9_begins
theorem m_X9_begins {d : Nat} : zMet (d := d) X_X9_begins yX9_begins 18 f_X9_begins := zmet_mk (X := X_X9_begins) (by decide) rfl rfl s_X9_begins

abbrev X_X9_form : zM := (RX9, cX9_form, 7, (some .int), "form")
noncomputable def lX9_form_6 {d : Nat} (P : zP d) (r6 : zK d) : zK d := (xild 6 (xald 0 (xgfI 25 28 (xcmp tge (xild 5 (xiret P)) (xild 5 (xald 1 (xpI 720 (xild 2 (xbin zmul (xild 6 (xbin zadd (xald1 0 (xald 3 (xpI 720 (xild 4 (xbin zmul (xild 6 (xbin zadd (xald1 0 (xbin zmul (xbin zadd (xist 5 (xinc 6 1 r6)))))))))))))))))))))))
set_option maxRecDepth 100000 in
set_option maxHeartbeats 4000000 in
theorem slX9_form_6 {d : Nat} [zGh] (P : zP d) (r6 : zK d) (hr6 : zSim X_X9_form 1 P 6 r6) : zSim X_X9_form 1 P 6 (lX9_form_6 P r6) := by
  unfold lX9_form_6
  refine sm_iload (pc := 6) (n := 6) dX9_form_6 ?_
  refine sm_aload_n (pc := 8) (n := 0) dX9_form_8 rfl ?_
  refine gf_X9_220 (pc := 9) rfl dX9_form_9 ?_
  refine sm_icmp_ge (pc := 12) (tgt := 48) dX9_form_12 (by decide) ?_ ?_
  · skip
    refine sm_iload (pc := 48) (n := 5) dX9_form_48 ?_
    exact sm_ireturn (pc := 50) dX9_form_50 rfl
  · skip
    refine sm_iload (pc := 15) (n := 5) dX9_form_15 ?_
    refine sm_aload_n (pc := 17) (n := 1) dX9_form_17 rfl ?_
    refine sm_sipush (pc := 18) dX9_form_18 zc_s_720 ?_
    refine sm_iload_n (pc := 21) (n := 2) dX9_form_21 rfl ?_
    refine sm_imul (pc := 22) dX9_form_22 ?_
    refine sm_iload (pc := 23) (n := 6) dX9_form_23 ?_
    refine sm_iadd (pc := 25) dX9_form_25 ?_
    refine sm_iaload (pc := 26) dX9_form_26 ?_
    refine sm_aload_n (pc := 27) (n := 3) dX9_form_27 rfl ?_
    refine sm_sipush (pc := 28) dX9_form_28 zc_s_720 ?_
    refine sm_iload (pc := 31) (n := 4) dX9_form_31 ?_
    refine sm_imul (pc := 33) dX9_form_33 ?_
    refine sm_iload (pc := 34) (n := 6) dX9_form_34 ?_
    refine sm_iadd (pc := 36) dX9_form_36 ?_
    refine sm_iaload (pc := 37) dX9_form_37 ?_
    refine sm_imul (pc := 38) dX9_form_38 ?_
    refine sm_iadd (pc := 39) dX9_form_39 ?_
    refine sm_istore (pc := 40) (n := 5) dX9_form_40 ?_
    refine sm_iinc (pc := 42) (n := 6) dX9_form_42 zc_i_1 ?_
    refine sm_goto (pc := 45) (tgt := 6) dX9_form_45 (by decide) ?_
    exact hr6
noncomputable def b_X9_form {d : Nat} (P : zP d) : zK d := (xpI 0 (xist 5 (xpI 0 (xist 6 (xloop (fun r6 => (lX9_form_6 P r6)) 100000)))))
set_option maxRecDepth 100000 in
set_option maxHeartbeats 4000000 in
theorem s_X9_form {d : Nat} [zGh] (P : zP d) : zSim X_X9_form 1 P 0 (b_X9_form P) := by
  unfold b_X9_form
  refine sm_iconst (pc := 0) dX9_form_0 zc_i_0 ?_
  refine sm_istore (pc := 1) (n := 5) dX9_form_1 ?_
  refine sm_iconst (pc := 3) dX9_form_3 zc_i_0 ?_
  refine sm_istore (pc := 4) (n := 6) dX9_form_4 ?_
  exact sm_loop (fun r6 hr6 => slX9_form_6 P r6 hr6) _
noncomputable def f_X9_form {d : Nat} : List zV → zH d → zP d → Bool := zfn 7 b_X9_form
theorem m_X9_form {d : Nat} : zMet (d := d) X_X9_form yX9_form 1 f_X9_form := zmet_mk (X := X_X9_form) (by decide) rfl rfl s_X9_form

abbrev X_X9_power : zM := (RX9, cX9_power, 8, (some .int), "power")
noncomputable def bX9_power_30 {d : Nat} (P : zP d) (r9 : zK d) : zK d := (xlld 5 (xlld 5 (xbinj zmulj (xild 2 (xi2l (xbinjN zremj (xlst 5 (xild 7 (xpI 1 (xbin zshr (xist 7 r9)))))))))))
set_option maxRecDepth 100000 in
set_option maxHeartbeats 4000000 in
theorem sbX9_power_30 {d : Nat} [zGh] (P : zP d) (r9 : zK d) (hr9 : zSim X_X9_power 1 P 9 r9) : zSim X_X9_power 1 P 30 (bX9_power_30 P r9) := by
  unfold bX9_power_30
  refine sm_lload (pc := 30) (n := 5) dX9_power_30 ?_
  refine sm_lload (pc := 32) (n := 5) dX9_power_32 ?_
  refine sm_lmul (pc := 34) dX9_power_34 ?_
  refine sm_iload_n (pc := 35) (n := 2) dX9_power_35 rfl ?_
  refine sm_i2l (pc := 36) dX9_power_36 ?_
  refine sm_lrem (pc := 37) dX9_power_37 ?_
  refine sm_lstore (pc := 38) (n := 5) dX9_power_38 ?_
  refine sm_iload (pc := 40) (n := 7) dX9_power_40 ?_
  refine sm_iconst (pc := 42) dX9_power_42 zc_i_1 ?_
  refine sm_ishr (pc := 43) dX9_power_43 ?_
  refine sm_istore (pc := 44) (n := 7) dX9_power_44 ?_
  refine sm_goto (pc := 46) (tgt := 9) dX9_power_46 (by decide) ?_
  exact hr9
noncomputable def lX9_power_9 {d : Nat} (P : zP d) (r9 : zK d) : zK d := (xild 7 (xif0 t0le (xlld 3 (xl2i (xiret P))) (xild 7 (xpI 1 (xbin zand (xpI 1 (xjoin (bX9_power_30 P r9) (fun j30 => (xcmp Nat.beq (xlld 3 (xlld 5 (xbinj zmulj (xild 2 (xi2l (xbinjN zremj (xlst 3 j30))))))) j30)))))))))
set_option maxRecDepth 100000 in
set_option maxHeartbeats 4000000 in
theorem slX9_power_9 {d : Nat} [zGh] (P : zP d) (r9 : zK d) (hr9 : zSim X_X9_power 1 P 9 r9) : zSim X_X9_power 1 P 9 (lX9_power_9 P r9) := by
  unfold lX9_power_9
  refine sm_iload (pc := 9) (n := 7) dX9_power_9 ?_
  refine sm_if_le (pc := 11) (tgt := 49) dX9_power_11 (by decide) ?_ ?_
  · skip
    refine sm_lload_n (pc := 49) (n := 3) dX9_power_49 rfl ?_
    refine sm_l2i (pc := 50) dX9_power_50 ?_
    exact sm_ireturn (pc := 51) dX9_power_51 rfl
  · skip
    refine sm_iload (pc := 14) (n := 7) dX9_power_14 ?_
    refine sm_iconst (pc := 16) dX9_power_16 zc_i_1 ?_
    refine sm_iand (pc := 17) dX9_power_17 ?_
    refine sm_iconst (pc := 18) dX9_power_18 zc_i_1 ?_
    refine sm_join (pc := 19) (pc' := 30) (sbX9_power_30 P r9 hr9) (fun j30 hj30 => ?_)
    refine sm_icmp_ne (pc := 19) (tgt := 30) dX9_power_19 (by decide) ?_ ?_
    · skip
      exact hj30
    · skip
      refine sm_lload_n (pc := 22) (n := 3) dX9_power_22 rfl ?_
      refine sm_lload (pc := 23) (n := 5) dX9_power_23 ?_
      refine sm_lmul (pc := 25) dX9_power_25 ?_
      refine sm_iload_n (pc := 26) (n := 2) dX9_power_26 rfl ?_
      refine sm_i2l (pc := 27) dX9_power_27 ?_
      refine sm_lrem (pc := 28) dX9_power_28 ?_
      refine sm_lstore_n (pc := 29) (n := 3) dX9_power_29 rfl ?_
      exact hj30
noncomputable def b_X9_power {d : Nat} (P : zP d) : zK d := (xpL 1 (xlst 3 (xild 0 (xi2l (xlst 5 (xild 1 (xist 7 (xloop (fun r9 => (lX9_power_9 P r9)) 100000))))))))
set_option maxRecDepth 100000 in
set_option maxHeartbeats 4000000 in
theorem s_X9_power {d : Nat} [zGh] (P : zP d) : zSim X_X9_power 1 P 0 (b_X9_power P) := by
  unfold b_X9_power
  refine sm_lconst (pc := 0) dX9_power_0 zc_l_1 ?_
  refine sm_lstore_n (pc := 1) (n := 3) dX9_power_1 rfl ?_
  refine sm_iload_n (pc := 2) (n := 0) dX9_power_2 rfl ?_
  refine sm_i2l (pc := 3) dX9_power_3 ?_
  refine sm_lstore (pc := 4) (n := 5) dX9_power_4 ?_
  refine sm_iload_n (pc := 6) (n := 1) dX9_power_6 rfl ?_
  refine sm_istore (pc := 7) (n := 7) dX9_power_7 ?_
  exact sm_loop (fun r9 hr9 => slX9_power_9 P r9 hr9) _
noncomputable def f_X9_power {d : Nat} : List zV → zH d → zP d → Bool := zfn 8 b_X9_power
theorem m_X9_power {d : Nat} : zMet (d := d) X_X9_power yX9_power 1 f_X9_power := zmet_mk (X := X_X9_power) (by decide) rfl rfl s_X9_power

abbrev X_X9_rankOf : zM := (RX9, cX9_rankOf, 9, (some .int), "rankOf")
noncomputable def bX9_rankOf_263 {d : Nat} (P : zP d) : zK d := (xild 2 (xiret P))
set_option maxRecDepth 100000 in
set_option maxHeartbeats 4000000 in
theorem sbX9_rankOf_263 {d : Nat} [zGh] (P : zP d) : zSim X_X9_rankOf 2 P 263 (bX9_rankOf_263 P) := by
  unfold bX9_rankOf_263
  refine sm_iload_n (pc := 263) (n := 2) dX9_rankOf_263 rfl ?_
  exact sm_ireturn (pc := 264) dX9_rankOf_264 rfl
noncomputable def bX9_rankOf_257 {d : Nat} (P : zP d) (r4 : zK d) : zK d := (xinc 3 1 r4)
set_option maxRecDepth 100000 in
set_option maxHeartbeats 4000000 in
theorem sbX9_rankOf_257 {d : Nat} [zGh] (P : zP d) (r4 : zK d) (hr4 : zSim X_X9_rankOf 2 P 4 r4) : zSim X_X9_rankOf 2 P 257 (bX9_rankOf_257 P r4) := by
  unfold bX9_rankOf_257
  refine sm_iinc (pc := 257) (n := 3) dX9_rankOf_257 zc_i_1 ?_
  refine sm_goto (pc := 260) (tgt := 4) dX9_rankOf_260 (by decide) ?_
  exact hr4
noncomputable def cX9_rankOf_226 {d : Nat} (P : zP d) (r184 : zK d) : zK d := (xpI 16 (xild 2 (xbin zmul (xild 8 (xbin zadd (xald1 0 (xbin zmul (xbin zadd (xald 0 (xgfI 25 1 (xbinN zrem (xast1 0 (fun v => v) (xinc 8 1 r184)))))))))))))
set_option maxRecDepth 100000 in
set_option maxHeartbeats 4000000 in
theorem scX9_rankOf_226 {d : Nat} [zGh] (P : zP d) (r184 : zK d) (hr184 : zSim X_X9_rankOf 2 P 184 r184) : zSim X_X9_rankOf 2 P 226 (cX9_rankOf_226 P r184) := by
  unfold cX9_rankOf_226
  refine sm_bipush (pc := 226) dX9_rankOf_226 zc_b_16 ?_
  refine sm_iload_n (pc := 228) (n := 2) dX9_rankOf_228 rfl ?_
  refine sm_imul (pc := 229) dX9_rankOf_229 ?_
  refine sm_iload (pc := 230) (n := 8) dX9_rankOf_230 ?_
  refine sm_iadd (pc := 232) dX9_rankOf_232 ?_
  refine sm_iaload (pc := 233) dX9_rankOf_233 ?_
  refine sm_imul (pc := 234) dX9_rankOf_234 ?_
  refine sm_iadd (pc := 235) dX9_rankOf_235 ?_
  refine sm_aload_n (pc := 236) (n := 0) dX9_rankOf_236 rfl ?_
  refine gf_X9_184 (pc := 237) rfl dX9_rankOf_237 ?_
  refine sm_irem (pc := 240) dX9_rankOf_240 ?_
  refine sm_iastore (pc := 241) dX9_rankOf_241 ?_
  refine sm_iinc (pc := 242) (n := 8) dX9_rankOf_242 zc_i_1 ?_
  refine sm_goto (pc := 245) (tgt := 184) dX9_rankOf_245 (by decide) ?_
  exact hr184
noncomputable def lX9_rankOf_184 {d : Nat} (P : zP d) (r153 : zK d) (r184 : zK d) : zK d := (xild 8 (xild 1 (xcmp tge (xinc 6 1 r153) (xald 0 (xgfR 25 34 (xpI 16 (xild 6 (xbin zmul (xild 8 (xbin zadd (xald 0 (xgfR 25 34 (xpI 16 (xild 6 (xbin zmul (xild 8 (xbin zadd (xald1 0 (xald 0 (xgfI 25 1 (xild 7 (xbin zsub (xald 0 (xgfR 25 34 (cX9_rankOf_226 P r184)))))))))))))))))))))))))
set_option maxRecDepth 100000 in
set_option maxHeartbeats 4000000 in
theorem slX9_rankOf_184 {d : Nat} [zGh] (P : zP d) (r153 : zK d) (r184 : zK d) (hr153 : zSim X_X9_rankOf 2 P 153 r153) (hr184 : zSim X_X9_rankOf 2 P 184 r184) : zSim X_X9_rankOf 2 P 184 (lX9_rankOf_184 P r153 r184) := by
  unfold lX9_rankOf_184
  refine sm_iload (pc := 184) (n := 8) dX9_rankOf_184 ?_
  refine sm_iload_n (pc := 186) (n := 1) dX9_rankOf_186 rfl ?_
  refine sm_icmp_ge (pc := 187) (tgt := 248) dX9_rankOf_187 (by decide) ?_ ?_
  · skip
    refine sm_iinc (pc := 248) (n := 6) dX9_rankOf_248 zc_i_1 ?_
    refine sm_goto (pc := 251) (tgt := 153) dX9_rankOf_251 (by decide) ?_
    exact hr153
  · skip
    refine sm_aload_n (pc := 190) (n := 0) dX9_rankOf_190 rfl ?_
    refine gf_X9_87 (pc := 191) rfl dX9_rankOf_191 ?_
    refine sm_bipush (pc := 194) dX9_rankOf_194 zc_b_16 ?_
    refine sm_iload (pc := 196) (n := 6) dX9_rankOf_196 ?_
    refine sm_imul (pc := 198) dX9_rankOf_198 ?_
    refine sm_iload (pc := 199) (n := 8) dX9_rankOf_199 ?_
    refine sm_iadd (pc := 201) dX9_rankOf_201 ?_
    refine sm_aload_n (pc := 202) (n := 0) dX9_rankOf_202 rfl ?_
    refine gf_X9_87 (pc := 203) rfl dX9_rankOf_203 ?_
    refine sm_bipush (pc := 206) dX9_rankOf_206 zc_b_16 ?_
    refine sm_iload (pc := 208) (n := 6) dX9_rankOf_208 ?_
    refine sm_imul (pc := 210) dX9_rankOf_210 ?_
    refine sm_iload (pc := 211) (n := 8) dX9_rankOf_211 ?_
    refine sm_iadd (pc := 213) dX9_rankOf_213 ?_
    refine sm_iaload (pc := 214) dX9_rankOf_214 ?_
    refine sm_aload_n (pc := 215) (n := 0) dX9_rankOf_215 rfl ?_
    refine gf_X9_184 (pc := 216) rfl dX9_rankOf_216 ?_
    refine sm_iload (pc := 219) (n := 7) dX9_rankOf_219 ?_
    refine sm_isub (pc := 221) dX9_rankOf_221 ?_
    refine sm_aload_n (pc := 222) (n := 0) dX9_rankOf_222 rfl ?_
    refine gf_X9_87 (pc := 223) rfl dX9_rankOf_223 ?_
    exact scX9_rankOf_226 P r184 hr184
noncomputable def lX9_rankOf_153 {d : Nat} (P : zP d) (j257 : zK d) (r153 : zK d) : zK d := (xild 6 (xild 1 (xcmp tge (xinc 2 1 j257) (xald 0 (xgfR 25 34 (xpI 16 (xild 6 (xbin zmul (xild 3 (xbin zadd (xald1 0 (xild 5 (xbin zmul (xald 0 (xgfI 25 1 (xbinN zrem (xist 7 (xild 3 (xist 8 (xloop (fun r184 => (lX9_rankOf_184 P r153 r184)) 100000))))))))))))))))))))
set_option maxRecDepth 100000 in
set_option maxHeartbeats 4000000 in
theorem slX9_rankOf_153 {d : Nat} [zGh] (P : zP d) (j257 : zK d) (r153 : zK d) (hj257 : zSim X_X9_rankOf 2 P 257 j257) (hr153 : zSim X_X9_rankOf 2 P 153 r153) : zSim X_X9_rankOf 2 P 153 (lX9_rankOf_153 P j257 r153) := by
  unfold lX9_rankOf_153
  refine sm_iload (pc := 153) (n := 6) dX9_rankOf_153 ?_
  refine sm_iload_n (pc := 155) (n := 1) dX9_rankOf_155 rfl ?_
  refine sm_icmp_ge (pc := 156) (tgt := 254) dX9_rankOf_156 (by decide) ?_ ?_
  · skip
    refine sm_iinc (pc := 254) (n := 2) dX9_rankOf_254 zc_i_1 ?_
    exact hj257
  · skip
    refine sm_aload_n (pc := 159) (n := 0) dX9_rankOf_159 rfl ?_
    refine gf_X9_87 (pc := 160) rfl dX9_rankOf_160 ?_
    refine sm_bipush (pc := 163) dX9_rankOf_163 zc_b_16 ?_
    refine sm_iload (pc := 165) (n := 6) dX9_rankOf_165 ?_
    refine sm_imul (pc := 167) dX9_rankOf_167 ?_
    refine sm_iload_n (pc := 168) (n := 3) dX9_rankOf_168 rfl ?_
    refine sm_iadd (pc := 169) dX9_rankOf_169 ?_
    refine sm_iaload (pc := 170) dX9_rankOf_170 ?_
    refine sm_iload (pc := 171) (n := 5) dX9_rankOf_171 ?_
    refine sm_imul (pc := 173) dX9_rankOf_173 ?_
    refine sm_aload_n (pc := 174) (n := 0) dX9_rankOf_174 rfl ?_
    refine gf_X9_184 (pc := 175) rfl dX9_rankOf_175 ?_
    refine sm_irem (pc := 178) dX9_rankOf_178 ?_
    refine sm_istore (pc := 179) (n := 7) dX9_rankOf_179 ?_
    refine sm_iload_n (pc := 181) (n := 3) dX9_rankOf_181 rfl ?_
    refine sm_istore (pc := 182) (n := 8) dX9_rankOf_182 ?_
    exact sm_loop (fun r184 hr184 => slX9_rankOf_184 P r153 r184 hr153 hr184) _
noncomputable def cX9_rankOf_97 {d : Nat} (P : zP d) (r56 : zK d) : zK d := (xild 5 (xbin zadd (xald1 0 (xast1 0 (fun v => v) (xald 0 (xgfR 25 34 (xpI 16 (xild 2 (xbin zmul (xild 5 (xbin zadd (xild 6 (xast1 0 (fun v => v) (xinc 5 1 r56))))))))))))))
set_option maxRecDepth 100000 in
set_option maxHeartbeats 4000000 in
theorem scX9_rankOf_97 {d : Nat} [zGh] (P : zP d) (r56 : zK d) (hr56 : zSim X_X9_rankOf 2 P 56 r56) : zSim X_X9_rankOf 2 P 97 (cX9_rankOf_97 P r56) := by
  unfold cX9_rankOf_97
  refine sm_iload (pc := 97) (n := 5) dX9_rankOf_97 ?_
  refine sm_iadd (pc := 99) dX9_rankOf_99 ?_
  refine sm_iaload (pc := 100) dX9_rankOf_100 ?_
  refine sm_iastore (pc := 101) dX9_rankOf_101 ?_
  refine sm_aload_n (pc := 102) (n := 0) dX9_rankOf_102 rfl ?_
  refine gf_X9_87 (pc := 103) rfl dX9_rankOf_103 ?_
  refine sm_bipush (pc := 106) dX9_rankOf_106 zc_b_16 ?_
  refine sm_iload_n (pc := 108) (n := 2) dX9_rankOf_108 rfl ?_
  refine sm_imul (pc := 109) dX9_rankOf_109 ?_
  refine sm_iload (pc := 110) (n := 5) dX9_rankOf_110 ?_
  refine sm_iadd (pc := 112) dX9_rankOf_112 ?_
  refine sm_iload (pc := 113) (n := 6) dX9_rankOf_113 ?_
  refine sm_iastore (pc := 115) dX9_rankOf_115 ?_
  refine sm_iinc (pc := 116) (n := 5) dX9_rankOf_116 zc_i_1 ?_
  refine sm_goto (pc := 119) (tgt := 56) dX9_rankOf_119 (by decide) ?_
  exact hr56
noncomputable def lX9_rankOf_56 {d : Nat} (P : zP d) (j257 : zK d) (r56 : zK d) : zK d := (xild 5 (xild 1 (xcmp tge (xald 0 (xgfR 25 34 (xpI 16 (xild 2 (xbin zmul (xild 3 (xbin zadd (xald1 0 (xald 0 (xgfI 25 1 (xpI 2 (xbin zsub (xald 0 (xgfI 25 1 (xcS 3 0 0 f_X9_power (xist 5 (xild 2 (xpI 1 (xbin zadd (xist 6 (xloop (fun r153 => (lX9_rankOf_153 P j257 r153)) 100000))))))))))))))))))))) (xald 0 (xgfR 25 34 (xpI 16 (xild 4 (xbin zmul (xild 5 (xbin zadd (xald1 0 (xist 6 (xald 0 (xgfR 25 34 (xpI 16 (xild 4 (xbin zmul (xild 5 (xbin zadd (xald 0 (xgfR 25 34 (xpI 16 (xild 2 (xbin zmul (cX9_rankOf_97 P r56)))))))))))))))))))))))))
set_option maxRecDepth 100000 in
set_option maxHeartbeats 4000000 in
theorem slX9_rankOf_56 {d : Nat} [zGh] (P : zP d) (j257 : zK d) (r56 : zK d) (hj257 : zSim X_X9_rankOf 2 P 257 j257) (hr56 : zSim X_X9_rankOf 2 P 56 r56) : zSim X_X9_rankOf 2 P 56 (lX9_rankOf_56 P j257 r56) := by
  unfold lX9_rankOf_56
  refine sm_iload (pc := 56) (n := 5) dX9_rankOf_56 ?_
  refine sm_iload_n (pc := 58) (n := 1) dX9_rankOf_58 rfl ?_
  refine sm_icmp_ge (pc := 59) (tgt := 122) dX9_rankOf_59 (by decide) ?_ ?_
  · skip
    refine sm_aload_n (pc := 122) (n := 0) dX9_rankOf_122 rfl ?_
    refine gf_X9_87 (pc := 123) rfl dX9_rankOf_123 ?_
    refine sm_bipush (pc := 126) dX9_rankOf_126 zc_b_16 ?_
    refine sm_iload_n (pc := 128) (n := 2) dX9_rankOf_128 rfl ?_
    refine sm_imul (pc := 129) dX9_rankOf_129 ?_
    refine sm_iload_n (pc := 130) (n := 3) dX9_rankOf_130 rfl ?_
    refine sm_iadd (pc := 131) dX9_rankOf_131 ?_
    refine sm_iaload (pc := 132) dX9_rankOf_132 ?_
    refine sm_aload_n (pc := 133) (n := 0) dX9_rankOf_133 rfl ?_
    refine gf_X9_184 (pc := 134) rfl dX9_rankOf_134 ?_
    refine sm_iconst (pc := 137) dX9_rankOf_137 zc_i_2 ?_
    refine sm_isub (pc := 138) dX9_rankOf_138 ?_
    refine sm_aload_n (pc := 139) (n := 0) dX9_rankOf_139 rfl ?_
    refine gf_X9_184 (pc := 140) rfl dX9_rankOf_140 ?_
    refine sm_cS (pc := 143) (n := 3) (mc := 0) (ms := 0) m_X9_power (cr_X9_238 (X := X_X9_rankOf) (fr := 2) (frc := 1) (pc := 143) (mc := 0) (ms := 0) rfl (by decide) dX9_rankOf_143) ?_
    refine sm_istore (pc := 146) (n := 5) dX9_rankOf_146 ?_
    refine sm_iload_n (pc := 148) (n := 2) dX9_rankOf_148 rfl ?_
    refine sm_iconst (pc := 149) dX9_rankOf_149 zc_i_1 ?_
    refine sm_iadd (pc := 150) dX9_rankOf_150 ?_
    refine sm_istore (pc := 151) (n := 6) dX9_rankOf_151 ?_
    exact sm_loop (fun r153 hr153 => slX9_rankOf_153 P j257 r153 hj257 hr153) _
  · skip
    refine sm_aload_n (pc := 62) (n := 0) dX9_rankOf_62 rfl ?_
    refine gf_X9_87 (pc := 63) rfl dX9_rankOf_63 ?_
    refine sm_bipush (pc := 66) dX9_rankOf_66 zc_b_16 ?_
    refine sm_iload (pc := 68) (n := 4) dX9_rankOf_68 ?_
    refine sm_imul (pc := 70) dX9_rankOf_70 ?_
    refine sm_iload (pc := 71) (n := 5) dX9_rankOf_71 ?_
    refine sm_iadd (pc := 73) dX9_rankOf_73 ?_
    refine sm_iaload (pc := 74) dX9_rankOf_74 ?_
    refine sm_istore (pc := 75) (n := 6) dX9_rankOf_75 ?_
    refine sm_aload_n (pc := 77) (n := 0) dX9_rankOf_77 rfl ?_
    refine gf_X9_87 (pc := 78) rfl dX9_rankOf_78 ?_
    refine sm_bipush (pc := 81) dX9_rankOf_81 zc_b_16 ?_
    refine sm_iload (pc := 83) (n := 4) dX9_rankOf_83 ?_
    refine sm_imul (pc := 85) dX9_rankOf_85 ?_
    refine sm_iload (pc := 86) (n := 5) dX9_rankOf_86 ?_
    refine sm_iadd (pc := 88) dX9_rankOf_88 ?_
    refine sm_aload_n (pc := 89) (n := 0) dX9_rankOf_89 rfl ?_
    refine gf_X9_87 (pc := 90) rfl dX9_rankOf_90 ?_
    refine sm_bipush (pc := 93) dX9_rankOf_93 zc_b_16 ?_
    refine sm_iload_n (pc := 95) (n := 2) dX9_rankOf_95 rfl ?_
    refine sm_imul (pc := 96) dX9_rankOf_96 ?_
    exact scX9_rankOf_97 P r56 hr56
noncomputable def bX9_rankOf_44 {d : Nat} (P : zP d) (r4 : zK d) : zK d := (xild 4 (xild 1 (xjoin (bX9_rankOf_257 P r4) (fun j257 => (xcmp Nat.beq j257 (xpI 0 (xist 5 (xloop (fun r56 => (lX9_rankOf_56 P j257 r56)) 100000))))))))
set_option maxRecDepth 100000 in
set_option maxHeartbeats 4000000 in
theorem sbX9_rankOf_44 {d : Nat} [zGh] (P : zP d) (r4 : zK d) (hr4 : zSim X_X9_rankOf 2 P 4 r4) : zSim X_X9_rankOf 2 P 44 (bX9_rankOf_44 P r4) := by
  unfold bX9_rankOf_44
  refine sm_iload (pc := 44) (n := 4) dX9_rankOf_44 ?_
  refine sm_iload_n (pc := 46) (n := 1) dX9_rankOf_46 rfl ?_
  refine sm_join (pc := 47) (pc' := 257) (sbX9_rankOf_257 P r4 hr4) (fun j257 hj257 => ?_)
  refine sm_icmp_ne (pc := 47) (tgt := 53) dX9_rankOf_47 (by decide) ?_ ?_
  · skip
    refine sm_iconst (pc := 53) dX9_rankOf_53 zc_i_0 ?_
    refine sm_istore (pc := 54) (n := 5) dX9_rankOf_54 ?_
    exact sm_loop (fun r56 hr56 => slX9_rankOf_56 P j257 r56 hj257 hr56) _
  · skip
    refine sm_goto (pc := 50) (tgt := 257) dX9_rankOf_50 (by decide) ?_
    exact hj257
noncomputable def lX9_rankOf_17 {d : Nat} (P : zP d) (r17 : zK d) (r4 : zK d) : zK d := (xild 4 (xild 1 (xjoin (bX9_rankOf_44 P r4) (fun j44 => (xcmp tge j44 (xald 0 (xgfR 25 34 (xpI 16 (xild 4 (xbin zmul (xild 3 (xbin zadd (xald1 0 (xif0 t0eq (xinc 4 1 r17) j44))))))))))))))
set_option maxRecDepth 100000 in
set_option maxHeartbeats 4000000 in
theorem slX9_rankOf_17 {d : Nat} [zGh] (P : zP d) (r17 : zK d) (r4 : zK d) (hr17 : zSim X_X9_rankOf 2 P 17 r17) (hr4 : zSim X_X9_rankOf 2 P 4 r4) : zSim X_X9_rankOf 2 P 17 (lX9_rankOf_17 P r17 r4) := by
  unfold lX9_rankOf_17
  refine sm_iload (pc := 17) (n := 4) dX9_rankOf_17 ?_
  refine sm_iload_n (pc := 19) (n := 1) dX9_rankOf_19 rfl ?_
  refine sm_join (pc := 20) (pc' := 44) (sbX9_rankOf_44 P r4 hr4) (fun j44 hj44 => ?_)
  refine sm_icmp_ge (pc := 20) (tgt := 44) dX9_rankOf_20 (by decide) ?_ ?_
  · skip
    exact hj44
  · skip
    refine sm_aload_n (pc := 23) (n := 0) dX9_rankOf_23 rfl ?_
    refine gf_X9_87 (pc := 24) rfl dX9_rankOf_24 ?_
    refine sm_bipush (pc := 27) dX9_rankOf_27 zc_b_16 ?_
    refine sm_iload (pc := 29) (n := 4) dX9_rankOf_29 ?_
    refine sm_imul (pc := 31) dX9_rankOf_31 ?_
    refine sm_iload_n (pc := 32) (n := 3) dX9_rankOf_32 rfl ?_
    refine sm_iadd (pc := 33) dX9_rankOf_33 ?_
    refine sm_iaload (pc := 34) dX9_rankOf_34 ?_
    refine sm_if_ne (pc := 35) (tgt := 44) dX9_rankOf_35 (by decide) ?_ ?_
    · skip
      exact hj44
    · skip
      refine sm_iinc (pc := 38) (n := 4) dX9_rankOf_38 zc_i_1 ?_
      refine sm_goto (pc := 41) (tgt := 17) dX9_rankOf_41 (by decide) ?_
      exact hr17
noncomputable def lX9_rankOf_4 {d : Nat} (P : zP d) (r4 : zK d) : zK d := (xild 3 (xild 1 (xjoin (bX9_rankOf_263 P) (fun j263 => (xcmp tge j263 (xild 2 (xild 1 (xcmp tge j263 (xild 2 (xist 4 (xloop (fun r17 => (lX9_rankOf_17 P r17 r4)) 100000)))))))))))
set_option maxRecDepth 100000 in
set_option maxHeartbeats 4000000 in
theorem slX9_rankOf_4 {d : Nat} [zGh] (P : zP d) (r4 : zK d) (hr4 : zSim X_X9_rankOf 2 P 4 r4) : zSim X_X9_rankOf 2 P 4 (lX9_rankOf_4 P r4) := by
  unfold lX9_rankOf_4
  refine sm_iload_n (pc := 4) (n := 3) dX9_rankOf_4 rfl ?_
  refine sm_iload_n (pc := 5) (n := 1) dX9_rankOf_5 rfl ?_
  refine sm_join (pc := 6) (pc' := 263) (sbX9_rankOf_263 P) (fun j263 hj263 => ?_)
  refine sm_icmp_ge (pc := 6) (tgt := 263) dX9_rankOf_6 (by decide) ?_ ?_
  · skip
    exact hj263
  · skip
    refine sm_iload_n (pc := 9) (n := 2) dX9_rankOf_9 rfl ?_
    refine sm_iload_n (pc := 10) (n := 1) dX9_rankOf_10 rfl ?_
    refine sm_icmp_ge (pc := 11) (tgt := 263) dX9_rankOf_11 (by decide) ?_ ?_
    · skip
      exact hj263
    · skip
      refine sm_iload_n (pc := 14) (n := 2) dX9_rankOf_14 rfl ?_
      refine sm_istore (pc := 15) (n := 4) dX9_rankOf_15 ?_
      exact sm_loop (fun r17 hr17 => slX9_rankOf_17 P r17 r4 hr17 hr4) _
noncomputable def b_X9_rankOf {d : Nat} (P : zP d) : zK d := (xpI 0 (xist 2 (xpI 0 (xist 3 (xloop (fun r4 => (lX9_rankOf_4 P r4)) 100000)))))
set_option maxRecDepth 100000 in
set_option maxHeartbeats 4000000 in
theorem s_X9_rankOf {d : Nat} [zGh] (P : zP d) : zSim X_X9_rankOf 2 P 0 (b_X9_rankOf P) := by
  unfold b_X9_rankOf
  refine sm_iconst (pc := 0) dX9_rankOf_0 zc_i_0 ?_
  refine sm_istore_n (pc := 1) (n := 2) dX9_rankOf_1 rfl ?_
  refine sm_iconst (pc := 2) dX9_rankOf_2 zc_i_0 ?_
  refine sm_istore_n (pc := 3) (n := 3) dX9_rankOf_3 rfl ?_
  exact sm_loop (fun r4 hr4 => slX9_rankOf_4 P r4 hr4) _
noncomputable def f_X9_rankOf {d : Nat} : List zV → zH d → zP d → Bool := zfn 9 b_X9_rankOf
theorem m_X9_rankOf {d : Nat} : zMet (d := d) X_X9_rankOf yX9_rankOf 2 f_X9_rankOf := zmet_mk (X := X_X9_rankOf) (by decide) rfl rfl s_X9_rankOf

abbrev X_X9_forms : zM := (RX9, cX9_forms, 5, none, "forms")
noncomputable def cX9_forms_59 {d : Nat} (P : zP d) (r19 : zK d) : zK d := (xild 3 (xbin zadd (xild 4 (xast1 0 (fun v => v) (xald 0 (xgfR 25 34 (xpI 16 (xild 2 (xbin zmul (xild 3 (xbin zadd (xild 4 (xald 0 (xgfI 25 1 (xbinN zrem (xald 0 (xgfI 25 1 (xbin zadd (xald 0 (xgfI 25 1 (xbinN zrem (xast1 0 (fun v => v) (xinc 3 1 r19)))))))))))))))))))))))
set_option maxRecDepth 100000 in
set_option maxHeartbeats 4000000 in
theorem scX9_forms_59 {d : Nat} [zGh] (P : zP d) (r19 : zK d) (hr19 : zSim X_X9_forms 19 P 19 r19) : zSim X_X9_forms 19 P 59 (cX9_forms_59 P r19) := by
  unfold cX9_forms_59
  refine sm_iload_n (pc := 59) (n := 3) dX9_forms_59 rfl ?_
  refine sm_iadd (pc := 60) dX9_forms_60 ?_
  refine sm_iload (pc := 61) (n := 4) dX9_forms_61 ?_
  refine sm_iastore (pc := 63) dX9_forms_63 ?_
  refine sm_aload_n (pc := 64) (n := 0) dX9_forms_64 rfl ?_
  refine gf_X9_87 (pc := 65) rfl dX9_forms_65 ?_
  refine sm_bipush (pc := 68) dX9_forms_68 zc_b_16 ?_
  refine sm_iload_n (pc := 70) (n := 2) dX9_forms_70 rfl ?_
  refine sm_imul (pc := 71) dX9_forms_71 ?_
  refine sm_iload_n (pc := 72) (n := 3) dX9_forms_72 rfl ?_
  refine sm_iadd (pc := 73) dX9_forms_73 ?_
  refine sm_iload (pc := 74) (n := 4) dX9_forms_74 ?_
  refine sm_aload_n (pc := 76) (n := 0) dX9_forms_76 rfl ?_
  refine gf_X9_184 (pc := 77) rfl dX9_forms_77 ?_
  refine sm_irem (pc := 80) dX9_forms_80 ?_
  refine sm_aload_n (pc := 81) (n := 0) dX9_forms_81 rfl ?_
  refine gf_X9_184 (pc := 82) rfl dX9_forms_82 ?_
  refine sm_iadd (pc := 85) dX9_forms_85 ?_
  refine sm_aload_n (pc := 86) (n := 0) dX9_forms_86 rfl ?_
  refine gf_X9_184 (pc := 87) rfl dX9_forms_87 ?_
  refine sm_irem (pc := 90) dX9_forms_90 ?_
  refine sm_iastore (pc := 91) dX9_forms_91 ?_
  refine sm_iinc (pc := 92) (n := 3) dX9_forms_92 zc_i_1 ?_
  refine sm_goto (pc := 95) (tgt := 19) dX9_forms_95 (by decide) ?_
  exact hr19
noncomputable def lX9_forms_19 {d : Nat} (P : zP d) (r19 : zK d) (r7 : zK d) : zK d := (xild 3 (xald 0 (xgfR 25 21 (xild 1 (xald1 0 (xcmp tge (xinc 2 1 r7) (xald 0 (xald 0 (xgfR 25 29 (xild 2 (xald 0 (xgfR 25 29 (xild 3 (xcV 25 5 0 0 f_X9_form (xist 4 (xald 0 (xgfR 25 35 (xpI 256 (xild 1 (xbin zmul (xpI 16 (xild 2 (xbin zmul (xbin zadd (cX9_forms_59 P r19)))))))))))))))))))))))))
set_option maxRecDepth 100000 in
set_option maxHeartbeats 4000000 in
theorem slX9_forms_19 {d : Nat} [zGh] (P : zP d) (r19 : zK d) (r7 : zK d) (hr19 : zSim X_X9_forms 19 P 19 r19) (hr7 : zSim X_X9_forms 19 P 7 r7) : zSim X_X9_forms 19 P 19 (lX9_forms_19 P r19 r7) := by
  unfold lX9_forms_19
  refine sm_iload_n (pc := 19) (n := 3) dX9_forms_19 rfl ?_
  refine sm_aload_n (pc := 20) (n := 0) dX9_forms_20 rfl ?_
  refine gf_X9_56 (pc := 21) rfl dX9_forms_21 ?_
  refine sm_iload_n (pc := 24) (n := 1) dX9_forms_24 rfl ?_
  refine sm_iaload (pc := 25) dX9_forms_25 ?_
  refine sm_icmp_ge (pc := 26) (tgt := 98) dX9_forms_26 (by decide) ?_ ?_
  · skip
    refine sm_iinc (pc := 98) (n := 2) dX9_forms_98 zc_i_1 ?_
    refine sm_goto (pc := 101) (tgt := 7) dX9_forms_101 (by decide) ?_
    exact hr7
  · skip
    refine sm_aload_n (pc := 29) (n := 0) dX9_forms_29 rfl ?_
    refine sm_aload_n (pc := 30) (n := 0) dX9_forms_30 rfl ?_
    refine gf_X9_72 (pc := 31) rfl dX9_forms_31 ?_
    refine sm_iload_n (pc := 34) (n := 2) dX9_forms_34 rfl ?_
    refine sm_aload_n (pc := 35) (n := 0) dX9_forms_35 rfl ?_
    refine gf_X9_72 (pc := 36) rfl dX9_forms_36 ?_
    refine sm_iload_n (pc := 39) (n := 3) dX9_forms_39 rfl ?_
    refine sm_cV (pc := 40) (ci := 9) (n := 5) (mc := 0) (ms := 0) rfl m_X9_form (cr_X9_245 (X := X_X9_forms) (fr := 19) (frc := 1) (pc := 40) (mc := 0) (ms := 0) rfl (by decide) dX9_forms_40) ?_
    refine sm_istore (pc := 43) (n := 4) dX9_forms_43 ?_
    refine sm_aload_n (pc := 45) (n := 0) dX9_forms_45 rfl ?_
    refine gf_X9_90 (pc := 46) rfl dX9_forms_46 ?_
    refine sm_sipush (pc := 49) dX9_forms_49 zc_s_256 ?_
    refine sm_iload_n (pc := 52) (n := 1) dX9_forms_52 rfl ?_
    refine sm_imul (pc := 53) dX9_forms_53 ?_
    refine sm_bipush (pc := 54) dX9_forms_54 zc_b_16 ?_
    refine sm_iload_n (pc := 56) (n := 2) dX9_forms_56 rfl ?_
    refine sm_imul (pc := 57) dX9_forms_57 ?_
    refine sm_iadd (pc := 58) dX9_forms_58 ?_
    exact scX9_forms_59 P r19 hr19
noncomputable def lX9_forms_7 {d : Nat} (P : zP d) (r7 : zK d) : zK d := (xild 2 (xald 0 (xgfR 25 21 (xild 1 (xald1 0 (xcmp tge (xald 0 (xgfR 25 36 (xild 1 (xald 0 (xald 0 (xgfR 25 21 (xild 1 (xald1 0 (xcV 25 2 0 0 f_X9_rankOf (xast1 0 (fun v => v) (xvret P))))))))))) (xpI 0 (xist 3 (xloop (fun r19 => (lX9_forms_19 P r19 r7)) 100000)))))))))
set_option maxRecDepth 100000 in
set_option maxHeartbeats 4000000 in
theorem slX9_forms_7 {d : Nat} [zGh] (P : zP d) (r7 : zK d) (hr7 : zSim X_X9_forms 19 P 7 r7) : zSim X_X9_forms 19 P 7 (lX9_forms_7 P r7) := by
  unfold lX9_forms_7
  refine sm_iload_n (pc := 7) (n := 2) dX9_forms_7 rfl ?_
  refine sm_aload_n (pc := 8) (n := 0) dX9_forms_8 rfl ?_
  refine gf_X9_56 (pc := 9) rfl dX9_forms_9 ?_
  refine sm_iload_n (pc := 12) (n := 1) dX9_forms_12 rfl ?_
  refine sm_iaload (pc := 13) dX9_forms_13 ?_
  refine sm_icmp_ge (pc := 14) (tgt := 104) dX9_forms_14 (by decide) ?_ ?_
  · skip
    refine sm_aload_n (pc := 104) (n := 0) dX9_forms_104 rfl ?_
    refine gf_X9_93 (pc := 105) rfl dX9_forms_105 ?_
    refine sm_iload_n (pc := 108) (n := 1) dX9_forms_108 rfl ?_
    refine sm_aload_n (pc := 109) (n := 0) dX9_forms_109 rfl ?_
    refine sm_aload_n (pc := 110) (n := 0) dX9_forms_110 rfl ?_
    refine gf_X9_56 (pc := 111) rfl dX9_forms_111 ?_
    refine sm_iload_n (pc := 114) (n := 1) dX9_forms_114 rfl ?_
    refine sm_iaload (pc := 115) dX9_forms_115 ?_
    refine sm_cV (pc := 116) (ci := 9) (n := 2) (mc := 0) (ms := 0) rfl m_X9_rankOf (cr_X9_249 (X := X_X9_forms) (fr := 19) (frc := 2) (pc := 116) (mc := 0) (ms := 0) rfl (by decide) dX9_forms_116) ?_
    refine sm_iastore (pc := 119) dX9_forms_119 ?_
    exact sm_vreturn (pc := 120) dX9_forms_120 rfl
  · skip
    refine sm_iconst (pc := 17) dX9_forms_17 zc_i_0 ?_
    refine sm_istore_n (pc := 18) (n := 3) dX9_forms_18 rfl ?_
    exact sm_loop (fun r19 hr19 => slX9_forms_19 P r19 r7 hr19 hr7) _
noncomputable def b_X9_forms {d : Nat} (P : zP d) : zK d := (xald 0 (xild 1 (xcV 25 2 0 0 f_X9_begins (xpI 0 (xist 2 (xloop (fun r7 => (lX9_forms_7 P r7)) 100000))))))
set_option maxRecDepth 100000 in
set_option maxHeartbeats 4000000 in
theorem s_X9_forms {d : Nat} [zGh] (P : zP d) : zSim X_X9_forms 19 P 0 (b_X9_forms P) := by
  unfold b_X9_forms
  refine sm_aload_n (pc := 0) (n := 0) dX9_forms_0 rfl ?_
  refine sm_iload_n (pc := 1) (n := 1) dX9_forms_1 rfl ?_
  refine sm_cV (pc := 2) (ci := 9) (n := 2) (mc := 0) (ms := 0) rfl m_X9_begins (cr_X9_241 (X := X_X9_forms) (fr := 19) (frc := 18) (pc := 2) (mc := 0) (ms := 0) rfl (by decide) dX9_forms_2) ?_
  refine sm_iconst (pc := 5) dX9_forms_5 zc_i_0 ?_
  refine sm_istore_n (pc := 6) (n := 2) dX9_forms_6 rfl ?_
  exact sm_loop (fun r7 hr7 => slX9_forms_7 P r7 hr7) _
noncomputable def f_X9_forms {d : Nat} : List zV → zH d → zP d → Bool := zfn 5 b_X9_forms
theorem m_X9_forms {d : Nat} : zMet (d := d) X_X9_forms yX9_forms 19 f_X9_forms := zmet_mk (X := X_X9_forms) (by decide) rfl rfl s_X9_forms

abbrev X_X9_moves : zM := (RX9, cX9_moves, 7, none, "moves")
noncomputable def lX9_moves_28 {d : Nat} (P : zP d) (r28 : zK d) (r5 : zK d) : zK d := (xild 6 (xild 5 (xcmp tge (xild 3 (xild 5 (xbin zadd (xist 3 (xinc 4 1 r5))))) (xald 0 (xgfR 25 33 (xild 3 (xild 6 (xbin zadd (xild 3 (xild 6 (xild 2 (xbin zadd (xild 5 (xbinN zrem (xbin zadd (xast1 0 (fun v => v) (xinc 6 1 r28)))))))))))))))))
set_option maxRecDepth 100000 in
set_option maxHeartbeats 4000000 in
theorem slX9_moves_28 {d : Nat} [zGh] (P : zP d) (r28 : zK d) (r5 : zK d) (hr28 : zSim X_X9_moves 2 P 28 r28) (hr5 : zSim X_X9_moves 2 P 5 r5) : zSim X_X9_moves 2 P 28 (lX9_moves_28 P r28 r5) := by
  unfold lX9_moves_28
  refine sm_iload (pc := 28) (n := 6) dX9_moves_28 ?_
  refine sm_iload (pc := 30) (n := 5) dX9_moves_30 ?_
  refine sm_icmp_ge (pc := 32) (tgt := 59) dX9_moves_32 (by decide) ?_ ?_
  · skip
    refine sm_iload_n (pc := 59) (n := 3) dX9_moves_59 rfl ?_
    refine sm_iload (pc := 60) (n := 5) dX9_moves_60 ?_
    refine sm_iadd (pc := 62) dX9_moves_62 ?_
    refine sm_istore_n (pc := 63) (n := 3) dX9_moves_63 rfl ?_
    refine sm_iinc (pc := 64) (n := 4) dX9_moves_64 zc_i_1 ?_
    refine sm_goto (pc := 67) (tgt := 5) dX9_moves_67 (by decide) ?_
    exact hr5
  · skip
    refine sm_aload_n (pc := 35) (n := 0) dX9_moves_35 rfl ?_
    refine gf_X9_84 (pc := 36) rfl dX9_moves_36 ?_
    refine sm_iload_n (pc := 39) (n := 3) dX9_moves_39 rfl ?_
    refine sm_iload (pc := 40) (n := 6) dX9_moves_40 ?_
    refine sm_iadd (pc := 42) dX9_moves_42 ?_
    refine sm_iload_n (pc := 43) (n := 3) dX9_moves_43 rfl ?_
    refine sm_iload (pc := 44) (n := 6) dX9_moves_44 ?_
    refine sm_iload_n (pc := 46) (n := 2) dX9_moves_46 rfl ?_
    refine sm_iadd (pc := 47) dX9_moves_47 ?_
    refine sm_iload (pc := 48) (n := 5) dX9_moves_48 ?_
    refine sm_irem (pc := 50) dX9_moves_50 ?_
    refine sm_iadd (pc := 51) dX9_moves_51 ?_
    refine sm_iastore (pc := 52) dX9_moves_52 ?_
    refine sm_iinc (pc := 53) (n := 6) dX9_moves_53 zc_i_1 ?_
    refine sm_goto (pc := 56) (tgt := 28) dX9_moves_56 (by decide) ?_
    exact hr28
noncomputable def lX9_moves_5 {d : Nat} (P : zP d) (r5 : zK d) : zK d := (xild 4 (xald 0 (xgfR 25 4 (xild 1 (xald1 0 (xcmp tge (xvret P) (xald 0 (xild 1 (xild 4 (xcV 25 3 0 0 f_X9_partOf (xist 5 (xpI 0 (xist 6 (xloop (fun r28 => (lX9_moves_28 P r28 r5)) 100000))))))))))))))
set_option maxRecDepth 100000 in
set_option maxHeartbeats 4000000 in
theorem slX9_moves_5 {d : Nat} [zGh] (P : zP d) (r5 : zK d) (hr5 : zSim X_X9_moves 2 P 5 r5) : zSim X_X9_moves 2 P 5 (lX9_moves_5 P r5) := by
  unfold lX9_moves_5
  refine sm_iload (pc := 5) (n := 4) dX9_moves_5 ?_
  refine sm_aload_n (pc := 7) (n := 0) dX9_moves_7 rfl ?_
  refine gf_X9_13 (pc := 8) rfl dX9_moves_8 ?_
  refine sm_iload_n (pc := 11) (n := 1) dX9_moves_11 rfl ?_
  refine sm_iaload (pc := 12) dX9_moves_12 ?_
  refine sm_icmp_ge (pc := 13) (tgt := 70) dX9_moves_13 (by decide) ?_ ?_
  · skip
    exact sm_vreturn (pc := 70) dX9_moves_70 rfl
  · skip
    refine sm_aload_n (pc := 16) (n := 0) dX9_moves_16 rfl ?_
    refine sm_iload_n (pc := 17) (n := 1) dX9_moves_17 rfl ?_
    refine sm_iload (pc := 18) (n := 4) dX9_moves_18 ?_
    refine sm_cV (pc := 20) (ci := 9) (n := 3) (mc := 0) (ms := 0) rfl m_X9_partOf (cr_X9_175 (X := X_X9_moves) (fr := 2) (frc := 1) (pc := 20) (mc := 0) (ms := 0) rfl (by decide) dX9_moves_20) ?_
    refine sm_istore (pc := 23) (n := 5) dX9_moves_23 ?_
    refine sm_iconst (pc := 25) dX9_moves_25 zc_i_0 ?_
    refine sm_istore (pc := 26) (n := 6) dX9_moves_26 ?_
    exact sm_loop (fun r28 hr28 => slX9_moves_28 P r28 r5 hr28 hr5) _
noncomputable def b_X9_moves {d : Nat} (P : zP d) : zK d := (xpI 1 (xist 3 (xpI 0 (xist 4 (xloop (fun r5 => (lX9_moves_5 P r5)) 100000)))))
set_option maxRecDepth 100000 in
set_option maxHeartbeats 4000000 in
theorem s_X9_moves {d : Nat} [zGh] (P : zP d) : zSim X_X9_moves 2 P 0 (b_X9_moves P) := by
  unfold b_X9_moves
  refine sm_iconst (pc := 0) dX9_moves_0 zc_i_1 ?_
  refine sm_istore_n (pc := 1) (n := 3) dX9_moves_1 rfl ?_
  refine sm_iconst (pc := 2) dX9_moves_2 zc_i_0 ?_
  refine sm_istore (pc := 3) (n := 4) dX9_moves_3 ?_
  exact sm_loop (fun r5 hr5 => slX9_moves_5 P r5 hr5) _
noncomputable def f_X9_moves {d : Nat} : List zV → zH d → zP d → Bool := zfn 7 b_X9_moves
theorem m_X9_moves {d : Nat} : zMet (d := d) X_X9_moves yX9_moves 2 f_X9_moves := zmet_mk (X := X_X9_moves) (by decide) rfl rfl s_X9_moves

abbrev X_X9_fixed : zM := (RX9, cX9_fixed, 6, (some .int), "fixed")
noncomputable def cX9_fixed_114 {d : Nat} (P : zP d) (r32 : zK d) : zK d := (xinc 4 1 r32)
set_option maxRecDepth 100000 in
set_option maxHeartbeats 4000000 in
theorem scX9_fixed_114 {d : Nat} [zGh] (P : zP d) (r32 : zK d) (hr32 : zSim X_X9_fixed 18 P 32 r32) : zSim X_X9_fixed 18 P 114 (cX9_fixed_114 P r32) := by
  unfold cX9_fixed_114
  refine sm_iinc (pc := 114) (n := 4) dX9_fixed_114 zc_i_1 ?_
  refine sm_goto (pc := 117) (tgt := 32) dX9_fixed_117 (by decide) ?_
  exact hr32
noncomputable def cX9_fixed_77 {d : Nat} (P : zP d) (r32 : zK d) : zK d := (xbin zadd (xild 4 (xbin zadd (xald1 0 (xbin zsub (xist 5 (xald 0 (xgfR 25 34 (xpI 16 (xild 3 (xbin zmul (xild 4 (xbin zadd (xild 5 (xald 0 (xgfI 25 1 (xbinN zrem (xald 0 (xgfI 25 1 (xbin zadd (xald 0 (xgfI 25 1 (xbinN zrem (xast1 0 (fun v => v) (cX9_fixed_114 P r32)))))))))))))))))))))))))
set_option maxRecDepth 100000 in
set_option maxHeartbeats 4000000 in
theorem scX9_fixed_77 {d : Nat} [zGh] (P : zP d) (r32 : zK d) (hr32 : zSim X_X9_fixed 18 P 32 r32) : zSim X_X9_fixed 18 P 77 (cX9_fixed_77 P r32) := by
  unfold cX9_fixed_77
  refine sm_iadd (pc := 77) dX9_fixed_77 ?_
  refine sm_iload (pc := 78) (n := 4) dX9_fixed_78 ?_
  refine sm_iadd (pc := 80) dX9_fixed_80 ?_
  refine sm_iaload (pc := 81) dX9_fixed_81 ?_
  refine sm_isub (pc := 82) dX9_fixed_82 ?_
  refine sm_istore (pc := 83) (n := 5) dX9_fixed_83 ?_
  refine sm_aload_n (pc := 85) (n := 0) dX9_fixed_85 rfl ?_
  refine gf_X9_87 (pc := 86) rfl dX9_fixed_86 ?_
  refine sm_bipush (pc := 89) dX9_fixed_89 zc_b_16 ?_
  refine sm_iload_n (pc := 91) (n := 3) dX9_fixed_91 rfl ?_
  refine sm_imul (pc := 92) dX9_fixed_92 ?_
  refine sm_iload (pc := 93) (n := 4) dX9_fixed_93 ?_
  refine sm_iadd (pc := 95) dX9_fixed_95 ?_
  refine sm_iload (pc := 96) (n := 5) dX9_fixed_96 ?_
  refine sm_aload_n (pc := 98) (n := 0) dX9_fixed_98 rfl ?_
  refine gf_X9_184 (pc := 99) rfl dX9_fixed_99 ?_
  refine sm_irem (pc := 102) dX9_fixed_102 ?_
  refine sm_aload_n (pc := 103) (n := 0) dX9_fixed_103 rfl ?_
  refine gf_X9_184 (pc := 104) rfl dX9_fixed_104 ?_
  refine sm_iadd (pc := 107) dX9_fixed_107 ?_
  refine sm_aload_n (pc := 108) (n := 0) dX9_fixed_108 rfl ?_
  refine gf_X9_184 (pc := 109) rfl dX9_fixed_109 ?_
  refine sm_irem (pc := 112) dX9_fixed_112 ?_
  refine sm_iastore (pc := 113) dX9_fixed_113 ?_
  exact scX9_fixed_114 P r32 hr32
noncomputable def lX9_fixed_32 {d : Nat} (P : zP d) (r16 : zK d) (r32 : zK d) : zK d := (xild 4 (xald 0 (xgfR 25 21 (xald 0 (xgfI 25 25 (xald1 0 (xcmp tge (xinc 3 1 r16) (xald 0 (xald 0 (xgfR 25 29 (xild 3 (xald 0 (xgfR 25 30 (xild 4 (xcV 25 5 0 0 f_X9_form (xald 0 (xgfR 25 35 (xpI 256 (xald 0 (xgfI 25 25 (xbin zmul (xpI 16 (xild 3 (xbin zmul (cX9_fixed_77 P r32)))))))))))))))))))))))))
set_option maxRecDepth 100000 in
set_option maxHeartbeats 4000000 in
theorem slX9_fixed_32 {d : Nat} [zGh] (P : zP d) (r16 : zK d) (r32 : zK d) (hr16 : zSim X_X9_fixed 18 P 16 r16) (hr32 : zSim X_X9_fixed 18 P 32 r32) : zSim X_X9_fixed 18 P 32 (lX9_fixed_32 P r16 r32) := by
  unfold lX9_fixed_32
  refine sm_iload (pc := 32) (n := 4) dX9_fixed_32 ?_
  refine sm_aload_n (pc := 34) (n := 0) dX9_fixed_34 rfl ?_
  refine gf_X9_56 (pc := 35) rfl dX9_fixed_35 ?_
  refine sm_aload_n (pc := 38) (n := 0) dX9_fixed_38 rfl ?_
  refine gf_X9_205 (pc := 39) rfl dX9_fixed_39 ?_
  refine sm_iaload (pc := 42) dX9_fixed_42 ?_
  refine sm_icmp_ge (pc := 43) (tgt := 120) dX9_fixed_43 (by decide) ?_ ?_
  · skip
    refine sm_iinc (pc := 120) (n := 3) dX9_fixed_120 zc_i_1 ?_
    refine sm_goto (pc := 123) (tgt := 16) dX9_fixed_123 (by decide) ?_
    exact hr16
  · skip
    refine sm_aload_n (pc := 46) (n := 0) dX9_fixed_46 rfl ?_
    refine sm_aload_n (pc := 47) (n := 0) dX9_fixed_47 rfl ?_
    refine gf_X9_72 (pc := 48) rfl dX9_fixed_48 ?_
    refine sm_iload_n (pc := 51) (n := 3) dX9_fixed_51 rfl ?_
    refine sm_aload_n (pc := 52) (n := 0) dX9_fixed_52 rfl ?_
    refine gf_X9_75 (pc := 53) rfl dX9_fixed_53 ?_
    refine sm_iload (pc := 56) (n := 4) dX9_fixed_56 ?_
    refine sm_cV (pc := 58) (ci := 9) (n := 5) (mc := 0) (ms := 0) rfl m_X9_form (cr_X9_245 (X := X_X9_fixed) (fr := 18) (frc := 1) (pc := 58) (mc := 0) (ms := 0) rfl (by decide) dX9_fixed_58) ?_
    refine sm_aload_n (pc := 61) (n := 0) dX9_fixed_61 rfl ?_
    refine gf_X9_90 (pc := 62) rfl dX9_fixed_62 ?_
    refine sm_sipush (pc := 65) dX9_fixed_65 zc_s_256 ?_
    refine sm_aload_n (pc := 68) (n := 0) dX9_fixed_68 rfl ?_
    refine gf_X9_205 (pc := 69) rfl dX9_fixed_69 ?_
    refine sm_imul (pc := 72) dX9_fixed_72 ?_
    refine sm_bipush (pc := 73) dX9_fixed_73 zc_b_16 ?_
    refine sm_iload_n (pc := 75) (n := 3) dX9_fixed_75 rfl ?_
    refine sm_imul (pc := 76) dX9_fixed_76 ?_
    exact scX9_fixed_77 P r32 hr32
noncomputable def lX9_fixed_16 {d : Nat} (P : zP d) (r16 : zK d) : zK d := (xild 3 (xald 0 (xgfR 25 21 (xald 0 (xgfI 25 25 (xald1 0 (xcmp tge (xald 0 (xgfR 25 36 (xald 0 (xgfI 25 25 (xald1 0 (xald 0 (xald 0 (xgfR 25 21 (xald 0 (xgfI 25 25 (xald1 0 (xcV 25 2 0 0 f_X9_rankOf (xbin zsub (xiret P)))))))))))))) (xpI 0 (xist 4 (xloop (fun r32 => (lX9_fixed_32 P r16 r32)) 100000))))))))))
set_option maxRecDepth 100000 in
set_option maxHeartbeats 4000000 in
theorem slX9_fixed_16 {d : Nat} [zGh] (P : zP d) (r16 : zK d) (hr16 : zSim X_X9_fixed 18 P 16 r16) : zSim X_X9_fixed 18 P 16 (lX9_fixed_16 P r16) := by
  unfold lX9_fixed_16
  refine sm_iload_n (pc := 16) (n := 3) dX9_fixed_16 rfl ?_
  refine sm_aload_n (pc := 17) (n := 0) dX9_fixed_17 rfl ?_
  refine gf_X9_56 (pc := 18) rfl dX9_fixed_18 ?_
  refine sm_aload_n (pc := 21) (n := 0) dX9_fixed_21 rfl ?_
  refine gf_X9_205 (pc := 22) rfl dX9_fixed_22 ?_
  refine sm_iaload (pc := 25) dX9_fixed_25 ?_
  refine sm_icmp_ge (pc := 26) (tgt := 126) dX9_fixed_26 (by decide) ?_ ?_
  · skip
    refine sm_aload_n (pc := 126) (n := 0) dX9_fixed_126 rfl ?_
    refine gf_X9_93 (pc := 127) rfl dX9_fixed_127 ?_
    refine sm_aload_n (pc := 130) (n := 0) dX9_fixed_130 rfl ?_
    refine gf_X9_205 (pc := 131) rfl dX9_fixed_131 ?_
    refine sm_iaload (pc := 134) dX9_fixed_134 ?_
    refine sm_aload_n (pc := 135) (n := 0) dX9_fixed_135 rfl ?_
    refine sm_aload_n (pc := 136) (n := 0) dX9_fixed_136 rfl ?_
    refine gf_X9_56 (pc := 137) rfl dX9_fixed_137 ?_
    refine sm_aload_n (pc := 140) (n := 0) dX9_fixed_140 rfl ?_
    refine gf_X9_205 (pc := 141) rfl dX9_fixed_141 ?_
    refine sm_iaload (pc := 144) dX9_fixed_144 ?_
    refine sm_cV (pc := 145) (ci := 9) (n := 2) (mc := 0) (ms := 0) rfl m_X9_rankOf (cr_X9_249 (X := X_X9_fixed) (fr := 18) (frc := 2) (pc := 145) (mc := 0) (ms := 0) rfl (by decide) dX9_fixed_145) ?_
    refine sm_isub (pc := 148) dX9_fixed_148 ?_
    exact sm_ireturn (pc := 149) dX9_fixed_149 rfl
  · skip
    refine sm_iconst (pc := 29) dX9_fixed_29 zc_i_0 ?_
    refine sm_istore (pc := 30) (n := 4) dX9_fixed_30 ?_
    exact sm_loop (fun r32 hr32 => slX9_fixed_32 P r16 r32 hr16 hr32) _
noncomputable def b_X9_fixed {d : Nat} (P : zP d) : zK d := (xald 0 (xild 1 (xild 2 (xcV 25 3 0 0 f_X9_moves (xald 0 (xald 0 (xgfR 25 30 (xcV 25 2 0 0 g_X9_sumsOf (xpI 0 (xist 3 (xloop (fun r16 => (lX9_fixed_16 P r16)) 100000)))))))))))
set_option maxRecDepth 100000 in
set_option maxHeartbeats 4000000 in
theorem s_X9_fixed {d : Nat} [zGh] (P : zP d) : zSim X_X9_fixed 18 P 0 (b_X9_fixed P) := by
  unfold b_X9_fixed
  refine sm_aload_n (pc := 0) (n := 0) dX9_fixed_0 rfl ?_
  refine sm_iload_n (pc := 1) (n := 1) dX9_fixed_1 rfl ?_
  refine sm_iload_n (pc := 2) (n := 2) dX9_fixed_2 rfl ?_
  refine sm_cV (pc := 3) (ci := 9) (n := 3) (mc := 0) (ms := 0) rfl m_X9_moves (cr_X9_252 (X := X_X9_fixed) (fr := 18) (frc := 2) (pc := 3) (mc := 0) (ms := 0) rfl (by decide) dX9_fixed_3) ?_
  refine sm_aload_n (pc := 6) (n := 0) dX9_fixed_6 rfl ?_
  refine sm_aload_n (pc := 7) (n := 0) dX9_fixed_7 rfl ?_
  refine gf_X9_75 (pc := 8) rfl dX9_fixed_8 ?_
  refine sm_cV (pc := 11) (ci := 9) (n := 2) (mc := 0) (ms := 0) rfl mg_X9_sumsOf (cr_X9_234 (X := X_X9_fixed) (fr := 18) (frc := 17) (pc := 11) (mc := 0) (ms := 0) rfl (by decide) dX9_fixed_11) ?_
  refine sm_iconst (pc := 14) dX9_fixed_14 zc_i_0 ?_
  refine sm_istore_n (pc := 15) (n := 3) dX9_fixed_15 rfl ?_
  exact sm_loop (fun r16 hr16 => slX9_fixed_16 P r16 hr16) _
noncomputable def f_X9_fixed {d : Nat} : List zV → zH d → zP d → Bool := zfn 6 b_X9_fixed
theorem m_X9_fixed {d : Nat} : zMet (d := d) X_X9_fixed yX9_fixed 18 f_X9_fixed := zmet_mk (X := X_X9_fixed) (by decide) rfl rfl s_X9_fixed
