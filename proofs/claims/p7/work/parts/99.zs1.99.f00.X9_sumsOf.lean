/-! the reference by summaries, by program -/
noncomputable def cX9_sumsOfa_75 {d : Nat} (P : zP d) (r36 : zK d) : zK d := (xasQ 0 (fun v => v) (xincR 3 1 r36))
set_option maxRecDepth 100000 in
set_option maxHeartbeats 4000000 in
theorem scX9_sumsOfa_75 {d : Nat} [zGh] (P : zP d) (r36 : zK d) (hr36 : zSimJ 2 X_X9_sumsOf 17 P 36 r36) : zSim X_X9_sumsOf 17 P 75 (cX9_sumsOfa_75 P r36) := by
  unfold cX9_sumsOfa_75
  refine sm_iastoreQ (pc := 75) dX9_sumsOf_75 ?_
  refine sm_iincR (pc := 76) (n := 3) dX9_sumsOf_76 zc_i_1 ?_
  refine sm_goto (pc := 79) (tgt := 36) dX9_sumsOf_79 (by decide) ?_
  exact hr36.use
noncomputable def lX9_sumsOfa_36 {d : Nat} (P : zP d) (r21 : zK d) (r36 : zK d) : zK d := (xild 3 (xald 0 (xgfI 25 0 (xcmpS tgeR rlGe rhS rlS rhLt (xmk mk8 (xmk mk9 (xald 0 (xald 1 (xpI 720 (xild 2 (xbin zmulR (xpI 0 (xpI 0 (xpI 1 (xcV 25 6 0 0 (zstr gs_X9_spreads) (xincR 2 1 r21)))))))))))) (xald 0 (xgfR 25 31 (xild 3 (xald 0 (xgfR 25 33 (xald 0 (xgfR 25 22 (xpI 6 (xald 0 (xgfR 25 20 (xald 0 (xgfI 25 25 (xalQ 0 (xild 2 (xbin zaddR (xbin zmulR (xild 3 (xbin zaddR (xalQ 0 (xalQ 0 (cX9_sumsOfa_75 P r36)))))))))))))))))))))))))
set_option maxRecDepth 100000 in
set_option maxHeartbeats 4000000 in
theorem slX9_sumsOfa_36 {d : Nat} [zGh] (P : zP d) (r21 : zK d) (r36 : zK d) (hr21 : zSimJ 2 X_X9_sumsOf 17 P 21 r21) (hr36 : zSimJ 2 X_X9_sumsOf 17 P 36 r36) : zSim X_X9_sumsOf 17 P 36 (lX9_sumsOfa_36 P r21 r36) := by
  unfold lX9_sumsOfa_36
  refine sm_iload_n (pc := 36) (n := 3) dX9_sumsOf_36 rfl ?_
  refine sm_aload_n (pc := 37) (n := 0) dX9_sumsOf_37 rfl ?_
  refine gf_X9_169 (pc := 38) rfl dX9_sumsOf_38 ?_
  refine sm_icmpS_ge (pc := 41) (tgt := 82) dX9_sumsOf_41 (by decide) ?_ ?_
  · skip
    refine sm_mk mk8_ok ?_
    refine sm_mk mk9_ok ?_
    refine sm_aload_n (pc := 82) (n := 0) dX9_sumsOf_82 rfl ?_
    refine sm_aload_n (pc := 83) (n := 1) dX9_sumsOf_83 rfl ?_
    refine sm_sipush (pc := 84) dX9_sumsOf_84 zc_s_720 ?_
    refine sm_iload_n (pc := 87) (n := 2) dX9_sumsOf_87 rfl ?_
    refine sm_imulR (pc := 88) dX9_sumsOf_88 ?_
    refine sm_iconst (pc := 89) dX9_sumsOf_89 zc_i_0 ?_
    refine sm_iconst (pc := 90) dX9_sumsOf_90 zc_i_0 ?_
    refine sm_iconst (pc := 91) dX9_sumsOf_91 zc_i_1 ?_
    refine sm_cV (pc := 92) (ci := 9) (n := 6) (mc := 0) (ms := 0) rfl (zMet_str mgs_X9_spreads) (cr_X9_227 (X := X_X9_sumsOf) (fr := 17) (frc := 16) (pc := 92) (mc := 0) (ms := 0) rfl (by decide) dX9_sumsOf_92) ?_
    refine sm_iincR (pc := 95) (n := 2) dX9_sumsOf_95 zc_i_1 ?_
    refine sm_goto (pc := 98) (tgt := 21) dX9_sumsOf_98 (by decide) ?_
    exact hr21.use
  · skip
    refine sm_aload_n (pc := 44) (n := 0) dX9_sumsOf_44 rfl ?_
    refine gf_X9_78 (pc := 45) rfl dX9_sumsOf_45 ?_
    refine sm_iload_n (pc := 48) (n := 3) dX9_sumsOf_48 rfl ?_
    refine sm_aload_n (pc := 49) (n := 0) dX9_sumsOf_49 rfl ?_
    refine gf_X9_84 (pc := 50) rfl dX9_sumsOf_50 ?_
    refine sm_aload_n (pc := 53) (n := 0) dX9_sumsOf_53 rfl ?_
    refine gf_X9_59 (pc := 54) rfl dX9_sumsOf_54 ?_
    refine sm_bipush (pc := 57) dX9_sumsOf_57 zc_b_6 ?_
    refine sm_aload_n (pc := 59) (n := 0) dX9_sumsOf_59 rfl ?_
    refine gf_X9_53 (pc := 60) rfl dX9_sumsOf_60 ?_
    refine sm_aload_n (pc := 63) (n := 0) dX9_sumsOf_63 rfl ?_
    refine gf_X9_205 (pc := 64) rfl dX9_sumsOf_64 ?_
    refine sm_ialoadQ (pc := 67) dX9_sumsOf_67 ?_
    refine sm_iload_n (pc := 68) (n := 2) dX9_sumsOf_68 rfl ?_
    refine sm_iaddR (pc := 69) dX9_sumsOf_69 ?_
    refine sm_imulR (pc := 70) dX9_sumsOf_70 ?_
    refine sm_iload_n (pc := 71) (n := 3) dX9_sumsOf_71 rfl ?_
    refine sm_iaddR (pc := 72) dX9_sumsOf_72 ?_
    refine sm_ialoadQ (pc := 73) dX9_sumsOf_73 ?_
    refine sm_ialoadQ (pc := 74) dX9_sumsOf_74 ?_
    exact scX9_sumsOfa_75 P r36 hr36
noncomputable def lX9_sumsOfa_21 {d : Nat} (P : zP d) (r21 : zK d) : zK d := (xild 2 (xald 0 (xgfR 25 21 (xald 0 (xgfI 25 25 (xalQ 0 (xcmpS tgeR rlGe rhS rlS rhLt (xwk (wkA 0 [31] 4294967296 (wkA 0 [32] 4294967296 wkE)) (xvret P)) (xwk (wkA 0 [31] 4294967296 (wkA 0 [32] 4294967296 wkE)) (xpI 0 (xist 3 (xloop (fun r36 => (lX9_sumsOfa_36 P r21 r36)) 100000)))))))))))
set_option maxRecDepth 100000 in
set_option maxHeartbeats 4000000 in
theorem slX9_sumsOfa_21 {d : Nat} [zGh] (P : zP d) (r21 : zK d) (hr21 : zSimJ 2 X_X9_sumsOf 17 P 21 r21) : zSim X_X9_sumsOf 17 P 21 (lX9_sumsOfa_21 P r21) := by
  unfold lX9_sumsOfa_21
  refine sm_iload_n (pc := 21) (n := 2) dX9_sumsOf_21 rfl ?_
  refine sm_aload_n (pc := 22) (n := 0) dX9_sumsOf_22 rfl ?_
  refine gf_X9_56 (pc := 23) rfl dX9_sumsOf_23 ?_
  refine sm_aload_n (pc := 26) (n := 0) dX9_sumsOf_26 rfl ?_
  refine gf_X9_205 (pc := 27) rfl dX9_sumsOf_27 ?_
  refine sm_ialoadQ (pc := 30) dX9_sumsOf_30 ?_
  refine sm_icmpS_ge (pc := 31) (tgt := 101) dX9_sumsOf_31 (by decide) ?_ ?_
  · skip
    refine sm_wk (wkA_ok (wkA_ok wkE_ok)) ?_
    exact sm_vreturn (pc := 101) dX9_sumsOf_101 rfl
  · skip
    refine sm_wk (wkA_ok (wkA_ok wkE_ok)) ?_
    refine sm_iconst (pc := 34) dX9_sumsOf_34 zc_i_0 ?_
    refine sm_istore_n (pc := 35) (n := 3) dX9_sumsOf_35 rfl ?_
    exact (sm_loopJ (j := 2) (fun G1 hG1 r36 hr36 => @slX9_sumsOfa_36 d G1 P r21 r36 (hr21.mv hG1 (by decide)) hr36) _).use
noncomputable def lX9_sumsOfa_2 {d : Nat} (P : zP d) (r2 : zK d) : zK d := (xild 2 (xpI 12000 (xcmpS tgeR rlGe rhS rlS rhLt (xpI 0 (xist 2 (xloop (fun r21 => (lX9_sumsOfa_21 P r21)) 100000))) (xald 1 (xild 2 (xpI 0 (xasQ 0 (fun v => v) (xincR 2 1 r2))))))))
set_option maxRecDepth 100000 in
set_option maxHeartbeats 4000000 in
theorem slX9_sumsOfa_2 {d : Nat} [zGh] (P : zP d) (r2 : zK d) (hr2 : zSimJ 2 X_X9_sumsOf 17 P 2 r2) : zSim X_X9_sumsOf 17 P 2 (lX9_sumsOfa_2 P r2) := by
  unfold lX9_sumsOfa_2
  refine sm_iload_n (pc := 2) (n := 2) dX9_sumsOf_2 rfl ?_
  refine sm_sipush (pc := 3) dX9_sumsOf_3 zc_s_12000 ?_
  refine sm_icmpS_ge (pc := 6) (tgt := 19) dX9_sumsOf_6 (by decide) ?_ ?_
  · skip
    refine sm_iconst (pc := 19) dX9_sumsOf_19 zc_i_0 ?_
    refine sm_istore_n (pc := 20) (n := 2) dX9_sumsOf_20 rfl ?_
    exact (sm_loopJ (j := 2) (fun G1 hG1 r21 hr21 => @slX9_sumsOfa_21 d G1 P r21 hr21) _).use
  · skip
    refine sm_aload_n (pc := 9) (n := 1) dX9_sumsOf_9 rfl ?_
    refine sm_iload_n (pc := 10) (n := 2) dX9_sumsOf_10 rfl ?_
    refine sm_iconst (pc := 11) dX9_sumsOf_11 zc_i_0 ?_
    refine sm_iastoreQ (pc := 12) dX9_sumsOf_12 ?_
    refine sm_iincR (pc := 13) (n := 2) dX9_sumsOf_13 zc_i_1 ?_
    refine sm_goto (pc := 16) (tgt := 2) dX9_sumsOf_16 (by decide) ?_
    exact hr2.use
noncomputable def b_X9_sumsOfa {d : Nat} (P : zP d) : zK d := (xpI 0 (xist 2 (xlp 2 1 (hsC 12001) (wkA 1 [] 4294967296 wkE) (fun r2 => (lX9_sumsOfa_2 P r2)))))
set_option maxRecDepth 100000 in
set_option maxHeartbeats 4000000 in
theorem s_X9_sumsOfa {d : Nat} [zGh] (P : zP d) : zSim X_X9_sumsOf 17 P 0 (b_X9_sumsOfa P) := by
  unfold b_X9_sumsOfa
  refine sm_iconst (pc := 0) dX9_sumsOf_0 zc_i_0 ?_
  refine sm_istore_n (pc := 1) (n := 2) dX9_sumsOf_1 rfl ?_
  exact sm_lp (i := 2) (j := 1) (by decide) (by decide) hsC_ok (wkA_ok wkE_ok) (fun G1 hG1 r2 hr2 => @slX9_sumsOfa_2 d G1 P r2 hr2)
noncomputable def f_X9_sumsOfa {d : Nat} : List zV → zH d → zP d → Bool := zfn 4 b_X9_sumsOfa
theorem m_X9_sumsOfa {d : Nat} : zMet (d := d) X_X9_sumsOf yX9_sumsOf 17 f_X9_sumsOfa := zmet_mk (X := X_X9_sumsOf) (by decide) rfl rfl s_X9_sumsOfa

noncomputable def zk_99_zs1_99_f00_X9_sumsOf_0 : zC := (0, 6, 0x10000000001000000000100000000010000000001000000000100000000)
noncomputable def zk_99_zs1_99_f00_X9_sumsOf_1 : zC := (0, 7, 0x100000000010000000001000000000100000000010000000001000000000100000000)
noncomputable def h0_X9_sumsOf_0 : zH 4 := (show zT 4 from (((((25, 63, bg_130), (0, 12000, zun 40 12000 4294967296)), ((0, 11, bg_8), (0, 11, bg_131))), (((0, 456, bg_16), (0, 7, 0x100000000010000000001000000000100000000010000000000000000010100000000)), ((0, 66, bg_1), zk_99_zs1_99_f00_X9_sumsOf_0))), (((zk_99_zs1_99_f00_X9_sumsOf_1, (10, 46656, 1)), ((11, 720, 1), (0, 0, 0))), zO2)), (11, (0, 0)))
noncomputable def h1_X9_sumsOf_0 : zH 4 := (show zT 4 from (((((25, 63, bg_130), (0, 12000, zun 40 12000 4294967296)), ((0, 11, bg_8), (0, 11, bg_131))), (((0, 456, bg_16), (0, 7, 0x100000000010000000001000000000100000000010000000000000000010100000000)), ((0, 66, bg_1), zk_99_zs1_99_f00_X9_sumsOf_0))), (((zk_99_zs1_99_f00_X9_sumsOf_1, (10, 46656, 1)), ((11, 720, 1), (0, 0, 0))), zO2)), (11, (0, 0)))
theorem ev_X9_sumsOf_0 : f_X9_sumsOfa [zR 1, zR 2] h0_X9_sumsOf_0 (zrk (zU) h1_X9_sumsOf_0) = true := by decide +kernel
noncomputable def g_X9_sumsOf_0 {d : Nat} : List zV → zH d → zP d → Bool := zsmyM [(0, 0), (0, 1), (1, 21), (1, 20), (1, 22), (1, 33), (1, 3), (1, 31), (1, 32), (1, 26), (1, 27)] [zR 1, zR 2] h0_X9_sumsOf_0 (zU) h1_X9_sumsOf_0
theorem mg_X9_sumsOf_0 {d : Nat} : zMet (d := d) X_X9_sumsOf yX9_sumsOf 17 g_X9_sumsOf_0 := zMet_smM m_X9_sumsOfa ev_X9_sumsOf_0
noncomputable def zk_99_zs1_99_f00_X9_sumsOf_2 : zT 2 := @Prod.mk (zT 1) (zT 1) ((25, 63, bg_132), (0, 12000, zun 40 12000 4294967296)) ((0, 11, bg_8), (0, 11, bg_131))
noncomputable def zk_99_zs1_99_f00_X9_sumsOf_3 : zC := (0, 7, 0x100000000010000000001000000000100000000000000000200000000010100000000)
noncomputable def zk_99_zs1_99_f00_X9_sumsOf_4 : zT 3 := @Prod.mk (zT 2) (zT 2) ((zk_99_zs1_99_f00_X9_sumsOf_1, (10, 46656, 2)), ((11, 720, 2), (0, 0, 0))) zO2
noncomputable def h0_X9_sumsOf_1 : zH 4 := (show zT 4 from ((zk_99_zs1_99_f00_X9_sumsOf_2, (((0, 456, bg_19), zk_99_zs1_99_f00_X9_sumsOf_3), ((0, 66, bg_2), zk_99_zs1_99_f00_X9_sumsOf_0))), zk_99_zs1_99_f00_X9_sumsOf_4), (11, (0, 0)))
noncomputable def h1_X9_sumsOf_1 : zH 4 := (show zT 4 from ((zk_99_zs1_99_f00_X9_sumsOf_2, (((0, 456, bg_19), zk_99_zs1_99_f00_X9_sumsOf_3), ((0, 66, bg_2), zk_99_zs1_99_f00_X9_sumsOf_0))), zk_99_zs1_99_f00_X9_sumsOf_4), (11, (0, 0)))
theorem ev_X9_sumsOf_1 : f_X9_sumsOfa [zR 1, zR 2] h0_X9_sumsOf_1 (zrk (zU) h1_X9_sumsOf_1) = true := by decide +kernel
noncomputable def g_X9_sumsOf_1 {d : Nat} : List zV → zH d → zP d → Bool := zsmyM [(0, 0), (0, 1), (1, 21), (1, 20), (1, 22), (1, 33), (1, 3), (1, 31), (1, 32), (1, 26), (1, 27)] [zR 1, zR 2] h0_X9_sumsOf_1 (zU) h1_X9_sumsOf_1
theorem mg_X9_sumsOf_1 {d : Nat} : zMet (d := d) X_X9_sumsOf yX9_sumsOf 17 g_X9_sumsOf_1 := zMet_smM m_X9_sumsOfa ev_X9_sumsOf_1
noncomputable def zk_99_zs1_99_f00_X9_sumsOf_5 : zT 2 := @Prod.mk (zT 1) (zT 1) ((25, 63, bg_133), (0, 12000, zun 40 12000 4294967296)) ((0, 11, bg_134), (0, 11, bg_135))
noncomputable def zk_99_zs1_99_f00_X9_sumsOf_6 : zT 3 := @Prod.mk (zT 2) (zT 2) ((zk_99_zs1_99_f00_X9_sumsOf_1, (10, 46656, 9)), ((11, 720, 9), (0, 0, 0))) zO2
noncomputable def h0_X9_sumsOf_2 : zH 4 := (show zT 4 from ((zk_99_zs1_99_f00_X9_sumsOf_5, (((0, 456, bg_22), zk_99_zs1_99_f00_X9_sumsOf_3), ((0, 66, bg_2), zk_99_zs1_99_f00_X9_sumsOf_0))), zk_99_zs1_99_f00_X9_sumsOf_6), (11, (0, 0)))
noncomputable def h1_X9_sumsOf_2 : zH 4 := (show zT 4 from ((zk_99_zs1_99_f00_X9_sumsOf_5, (((0, 456, bg_22), zk_99_zs1_99_f00_X9_sumsOf_3), ((0, 66, bg_2), zk_99_zs1_99_f00_X9_sumsOf_0))), zk_99_zs1_99_f00_X9_sumsOf_6), (11, (0, 0)))
theorem ev_X9_sumsOf_2 : f_X9_sumsOfa [zR 1, zR 2] h0_X9_sumsOf_2 (zrk (zU) h1_X9_sumsOf_2) = true := by decide +kernel
noncomputable def g_X9_sumsOf_2 {d : Nat} : List zV → zH d → zP d → Bool := zsmyM [(0, 0), (0, 1), (1, 21), (1, 20), (1, 22), (1, 33), (1, 3), (1, 31), (1, 32), (1, 26), (1, 27)] [zR 1, zR 2] h0_X9_sumsOf_2 (zU) h1_X9_sumsOf_2
theorem mg_X9_sumsOf_2 {d : Nat} : zMet (d := d) X_X9_sumsOf yX9_sumsOf 17 g_X9_sumsOf_2 := zMet_smM m_X9_sumsOfa ev_X9_sumsOf_2
noncomputable def zk_99_zs1_99_f00_X9_sumsOf_7 : zC := (0, 7, 0x100000000010000000001000000000100000000000000000100000000020100000000)
noncomputable def h0_X9_sumsOf_3 : zH 4 := (show zT 4 from ((zk_99_zs1_99_f00_X9_sumsOf_2, (((0, 456, bg_19), zk_99_zs1_99_f00_X9_sumsOf_7), ((0, 66, bg_2), zk_99_zs1_99_f00_X9_sumsOf_0))), zk_99_zs1_99_f00_X9_sumsOf_4), (11, (0, 0)))
noncomputable def h1_X9_sumsOf_3 : zH 4 := (show zT 4 from ((zk_99_zs1_99_f00_X9_sumsOf_2, (((0, 456, bg_19), zk_99_zs1_99_f00_X9_sumsOf_7), ((0, 66, bg_2), zk_99_zs1_99_f00_X9_sumsOf_0))), zk_99_zs1_99_f00_X9_sumsOf_4), (11, (0, 0)))
theorem ev_X9_sumsOf_3 : f_X9_sumsOfa [zR 1, zR 2] h0_X9_sumsOf_3 (zrk (zU) h1_X9_sumsOf_3) = true := by decide +kernel
noncomputable def g_X9_sumsOf_3 {d : Nat} : List zV → zH d → zP d → Bool := zsmyM [(0, 0), (0, 1), (1, 21), (1, 20), (1, 22), (1, 33), (1, 3), (1, 31), (1, 32), (1, 26), (1, 27)] [zR 1, zR 2] h0_X9_sumsOf_3 (zU) h1_X9_sumsOf_3
theorem mg_X9_sumsOf_3 {d : Nat} : zMet (d := d) X_X9_sumsOf yX9_sumsOf 17 g_X9_sumsOf_3 := zMet_smM m_X9_sumsOfa ev_X9_sumsOf_3
noncomputable def h0_X9_sumsOf_4 : zH 4 := (show zT 4 from ((zk_99_zs1_99_f00_X9_sumsOf_5, (((0, 456, bg_22), zk_99_zs1_99_f00_X9_sumsOf_7), ((0, 66, bg_2), zk_99_zs1_99_f00_X9_sumsOf_0))), zk_99_zs1_99_f00_X9_sumsOf_6), (11, (0, 0)))
noncomputable def h1_X9_sumsOf_4 : zH 4 := (show zT 4 from ((zk_99_zs1_99_f00_X9_sumsOf_5, (((0, 456, bg_22), zk_99_zs1_99_f00_X9_sumsOf_7), ((0, 66, bg_2), zk_99_zs1_99_f00_X9_sumsOf_0))), zk_99_zs1_99_f00_X9_sumsOf_6), (11, (0, 0)))
theorem ev_X9_sumsOf_4 : f_X9_sumsOfa [zR 1, zR 2] h0_X9_sumsOf_4 (zrk (zU) h1_X9_sumsOf_4) = true := by decide +kernel
noncomputable def g_X9_sumsOf_4 {d : Nat} : List zV → zH d → zP d → Bool := zsmyM [(0, 0), (0, 1), (1, 21), (1, 20), (1, 22), (1, 33), (1, 3), (1, 31), (1, 32), (1, 26), (1, 27)] [zR 1, zR 2] h0_X9_sumsOf_4 (zU) h1_X9_sumsOf_4
theorem mg_X9_sumsOf_4 {d : Nat} : zMet (d := d) X_X9_sumsOf yX9_sumsOf 17 g_X9_sumsOf_4 := zMet_smM m_X9_sumsOfa ev_X9_sumsOf_4
noncomputable def zk_99_zs1_99_f00_X9_sumsOf_8 : zT 2 := @Prod.mk (zT 1) (zT 1) ((25, 63, bg_136), (0, 12000, zun 40 12000 4294967296)) ((0, 11, bg_8), (0, 11, bg_131))
noncomputable def zk_99_zs1_99_f00_X9_sumsOf_9 : zC := (0, 7, 0x100000000010000000001000000000000000003000000000200000000010100000000)
noncomputable def zk_99_zs1_99_f00_X9_sumsOf_10 : zT 3 := @Prod.mk (zT 2) (zT 2) ((zk_99_zs1_99_f00_X9_sumsOf_1, (10, 46656, 3)), ((11, 720, 3), (0, 0, 0))) zO2
noncomputable def h0_X9_sumsOf_5 : zH 4 := (show zT 4 from ((zk_99_zs1_99_f00_X9_sumsOf_8, (((0, 456, bg_25), zk_99_zs1_99_f00_X9_sumsOf_9), ((0, 66, bg_3), zk_99_zs1_99_f00_X9_sumsOf_0))), zk_99_zs1_99_f00_X9_sumsOf_10), (11, (0, 0)))
noncomputable def h1_X9_sumsOf_5 : zH 4 := (show zT 4 from ((zk_99_zs1_99_f00_X9_sumsOf_8, (((0, 456, bg_25), zk_99_zs1_99_f00_X9_sumsOf_9), ((0, 66, bg_3), zk_99_zs1_99_f00_X9_sumsOf_0))), zk_99_zs1_99_f00_X9_sumsOf_10), (11, (0, 0)))
theorem ev_X9_sumsOf_5 : f_X9_sumsOfa [zR 1, zR 2] h0_X9_sumsOf_5 (zrk (zU) h1_X9_sumsOf_5) = true := by decide +kernel
noncomputable def g_X9_sumsOf_5 {d : Nat} : List zV → zH d → zP d → Bool := zsmyM [(0, 0), (0, 1), (1, 21), (1, 20), (1, 22), (1, 33), (1, 3), (1, 31), (1, 32), (1, 26), (1, 27)] [zR 1, zR 2] h0_X9_sumsOf_5 (zU) h1_X9_sumsOf_5
theorem mg_X9_sumsOf_5 {d : Nat} : zMet (d := d) X_X9_sumsOf yX9_sumsOf 17 g_X9_sumsOf_5 := zMet_smM m_X9_sumsOfa ev_X9_sumsOf_5
noncomputable def zk_99_zs1_99_f00_X9_sumsOf_11 : zC := (0, 7, 0x100000000010000000001000000000000000001000000000300000000020100000000)
noncomputable def h0_X9_sumsOf_6 : zH 4 := (show zT 4 from ((zk_99_zs1_99_f00_X9_sumsOf_8, (((0, 456, bg_25), zk_99_zs1_99_f00_X9_sumsOf_11), ((0, 66, bg_3), zk_99_zs1_99_f00_X9_sumsOf_0))), zk_99_zs1_99_f00_X9_sumsOf_10), (11, (0, 0)))
noncomputable def h1_X9_sumsOf_6 : zH 4 := (show zT 4 from ((zk_99_zs1_99_f00_X9_sumsOf_8, (((0, 456, bg_25), zk_99_zs1_99_f00_X9_sumsOf_11), ((0, 66, bg_3), zk_99_zs1_99_f00_X9_sumsOf_0))), zk_99_zs1_99_f00_X9_sumsOf_10), (11, (0, 0)))
theorem ev_X9_sumsOf_6 : f_X9_sumsOfa [zR 1, zR 2] h0_X9_sumsOf_6 (zrk (zU) h1_X9_sumsOf_6) = true := by decide +kernel
noncomputable def g_X9_sumsOf_6 {d : Nat} : List zV → zH d → zP d → Bool := zsmyM [(0, 0), (0, 1), (1, 21), (1, 20), (1, 22), (1, 33), (1, 3), (1, 31), (1, 32), (1, 26), (1, 27)] [zR 1, zR 2] h0_X9_sumsOf_6 (zU) h1_X9_sumsOf_6
theorem mg_X9_sumsOf_6 {d : Nat} : zMet (d := d) X_X9_sumsOf yX9_sumsOf 17 g_X9_sumsOf_6 := zMet_smM m_X9_sumsOfa ev_X9_sumsOf_6
noncomputable def zk_99_zs1_99_f00_X9_sumsOf_12 : zT 2 := @Prod.mk (zT 1) (zT 1) ((25, 63, bg_137), (0, 12000, zun 40 12000 4294967296)) ((0, 11, bg_9), (0, 11, bg_135))
noncomputable def zk_99_zs1_99_f00_X9_sumsOf_13 : zT 3 := @Prod.mk (zT 2) (zT 2) ((zk_99_zs1_99_f00_X9_sumsOf_1, (10, 46656, 10)), ((11, 720, 10), (0, 0, 0))) zO2
noncomputable def h0_X9_sumsOf_7 : zH 4 := (show zT 4 from ((zk_99_zs1_99_f00_X9_sumsOf_12, (((0, 456, bg_28), zk_99_zs1_99_f00_X9_sumsOf_9), ((0, 66, bg_3), zk_99_zs1_99_f00_X9_sumsOf_0))), zk_99_zs1_99_f00_X9_sumsOf_13), (11, (0, 0)))
noncomputable def h1_X9_sumsOf_7 : zH 4 := (show zT 4 from ((zk_99_zs1_99_f00_X9_sumsOf_12, (((0, 456, bg_28), zk_99_zs1_99_f00_X9_sumsOf_9), ((0, 66, bg_3), zk_99_zs1_99_f00_X9_sumsOf_0))), zk_99_zs1_99_f00_X9_sumsOf_13), (11, (0, 0)))
theorem ev_X9_sumsOf_7 : f_X9_sumsOfa [zR 1, zR 2] h0_X9_sumsOf_7 (zrk (zU) h1_X9_sumsOf_7) = true := by decide +kernel
noncomputable def g_X9_sumsOf_7 {d : Nat} : List zV → zH d → zP d → Bool := zsmyM [(0, 0), (0, 1), (1, 21), (1, 20), (1, 22), (1, 33), (1, 3), (1, 31), (1, 32), (1, 26), (1, 27)] [zR 1, zR 2] h0_X9_sumsOf_7 (zU) h1_X9_sumsOf_7
theorem mg_X9_sumsOf_7 {d : Nat} : zMet (d := d) X_X9_sumsOf yX9_sumsOf 17 g_X9_sumsOf_7 := zMet_smM m_X9_sumsOfa ev_X9_sumsOf_7
noncomputable def h0_X9_sumsOf_8 : zH 4 := (show zT 4 from ((zk_99_zs1_99_f00_X9_sumsOf_12, (((0, 456, bg_28), zk_99_zs1_99_f00_X9_sumsOf_11), ((0, 66, bg_3), zk_99_zs1_99_f00_X9_sumsOf_0))), zk_99_zs1_99_f00_X9_sumsOf_13), (11, (0, 0)))
noncomputable def h1_X9_sumsOf_8 : zH 4 := (show zT 4 from ((zk_99_zs1_99_f00_X9_sumsOf_12, (((0, 456, bg_28), zk_99_zs1_99_f00_X9_sumsOf_11), ((0, 66, bg_3), zk_99_zs1_99_f00_X9_sumsOf_0))), zk_99_zs1_99_f00_X9_sumsOf_13), (11, (0, 0)))
theorem ev_X9_sumsOf_8 : f_X9_sumsOfa [zR 1, zR 2] h0_X9_sumsOf_8 (zrk (zU) h1_X9_sumsOf_8) = true := by decide +kernel
noncomputable def g_X9_sumsOf_8 {d : Nat} : List zV → zH d → zP d → Bool := zsmyM [(0, 0), (0, 1), (1, 21), (1, 20), (1, 22), (1, 33), (1, 3), (1, 31), (1, 32), (1, 26), (1, 27)] [zR 1, zR 2] h0_X9_sumsOf_8 (zU) h1_X9_sumsOf_8
theorem mg_X9_sumsOf_8 {d : Nat} : zMet (d := d) X_X9_sumsOf yX9_sumsOf 17 g_X9_sumsOf_8 := zMet_smM m_X9_sumsOfa ev_X9_sumsOf_8
noncomputable def zk_99_zs1_99_f00_X9_sumsOf_14 : zT 2 := @Prod.mk (zT 1) (zT 1) ((25, 63, bg_138), (0, 12000, zun 40 12000 4294967296)) ((0, 11, bg_139), (0, 11, bg_140))
noncomputable def zk_99_zs1_99_f00_X9_sumsOf_15 : zT 3 := @Prod.mk (zT 2) (zT 2) ((zk_99_zs1_99_f00_X9_sumsOf_1, (10, 46656, 73)), ((11, 720, 73), (0, 0, 0))) zO2
noncomputable def h0_X9_sumsOf_9 : zH 4 := (show zT 4 from ((zk_99_zs1_99_f00_X9_sumsOf_14, (((0, 456, bg_31), zk_99_zs1_99_f00_X9_sumsOf_9), ((0, 66, bg_3), zk_99_zs1_99_f00_X9_sumsOf_0))), zk_99_zs1_99_f00_X9_sumsOf_15), (11, (0, 0)))
noncomputable def h1_X9_sumsOf_9 : zH 4 := (show zT 4 from ((zk_99_zs1_99_f00_X9_sumsOf_14, (((0, 456, bg_31), zk_99_zs1_99_f00_X9_sumsOf_9), ((0, 66, bg_3), zk_99_zs1_99_f00_X9_sumsOf_0))), zk_99_zs1_99_f00_X9_sumsOf_15), (11, (0, 0)))
theorem ev_X9_sumsOf_9 : f_X9_sumsOfa [zR 1, zR 2] h0_X9_sumsOf_9 (zrk (zU) h1_X9_sumsOf_9) = true := by decide +kernel
noncomputable def g_X9_sumsOf_9 {d : Nat} : List zV → zH d → zP d → Bool := zsmyM [(0, 0), (0, 1), (1, 21), (1, 20), (1, 22), (1, 33), (1, 3), (1, 31), (1, 32), (1, 26), (1, 27)] [zR 1, zR 2] h0_X9_sumsOf_9 (zU) h1_X9_sumsOf_9
theorem mg_X9_sumsOf_9 {d : Nat} : zMet (d := d) X_X9_sumsOf yX9_sumsOf 17 g_X9_sumsOf_9 := zMet_smM m_X9_sumsOfa ev_X9_sumsOf_9
noncomputable def zk_99_zs1_99_f00_X9_sumsOf_16 : zC := (0, 7, 0x100000000010000000001000000000000000003000000000100000000020100000000)
noncomputable def h0_X9_sumsOf_10 : zH 4 := (show zT 4 from ((zk_99_zs1_99_f00_X9_sumsOf_8, (((0, 456, bg_25), zk_99_zs1_99_f00_X9_sumsOf_16), ((0, 66, bg_3), zk_99_zs1_99_f00_X9_sumsOf_0))), zk_99_zs1_99_f00_X9_sumsOf_10), (11, (0, 0)))
noncomputable def h1_X9_sumsOf_10 : zH 4 := (show zT 4 from ((zk_99_zs1_99_f00_X9_sumsOf_8, (((0, 456, bg_25), zk_99_zs1_99_f00_X9_sumsOf_16), ((0, 66, bg_3), zk_99_zs1_99_f00_X9_sumsOf_0))), zk_99_zs1_99_f00_X9_sumsOf_10), (11, (0, 0)))
theorem ev_X9_sumsOf_10 : f_X9_sumsOfa [zR 1, zR 2] h0_X9_sumsOf_10 (zrk (zU) h1_X9_sumsOf_10) = true := by decide +kernel
noncomputable def g_X9_sumsOf_10 {d : Nat} : List zV → zH d → zP d → Bool := zsmyM [(0, 0), (0, 1), (1, 21), (1, 20), (1, 22), (1, 33), (1, 3), (1, 31), (1, 32), (1, 26), (1, 27)] [zR 1, zR 2] h0_X9_sumsOf_10 (zU) h1_X9_sumsOf_10
theorem mg_X9_sumsOf_10 {d : Nat} : zMet (d := d) X_X9_sumsOf yX9_sumsOf 17 g_X9_sumsOf_10 := zMet_smM m_X9_sumsOfa ev_X9_sumsOf_10
noncomputable def h0_X9_sumsOf_11 : zH 4 := (show zT 4 from ((zk_99_zs1_99_f00_X9_sumsOf_12, (((0, 456, bg_28), zk_99_zs1_99_f00_X9_sumsOf_16), ((0, 66, bg_3), zk_99_zs1_99_f00_X9_sumsOf_0))), zk_99_zs1_99_f00_X9_sumsOf_13), (11, (0, 0)))
noncomputable def h1_X9_sumsOf_11 : zH 4 := (show zT 4 from ((zk_99_zs1_99_f00_X9_sumsOf_12, (((0, 456, bg_28), zk_99_zs1_99_f00_X9_sumsOf_16), ((0, 66, bg_3), zk_99_zs1_99_f00_X9_sumsOf_0))), zk_99_zs1_99_f00_X9_sumsOf_13), (11, (0, 0)))
theorem ev_X9_sumsOf_11 : f_X9_sumsOfa [zR 1, zR 2] h0_X9_sumsOf_11 (zrk (zU) h1_X9_sumsOf_11) = true := by decide +kernel
noncomputable def g_X9_sumsOf_11 {d : Nat} : List zV → zH d → zP d → Bool := zsmyM [(0, 0), (0, 1), (1, 21), (1, 20), (1, 22), (1, 33), (1, 3), (1, 31), (1, 32), (1, 26), (1, 27)] [zR 1, zR 2] h0_X9_sumsOf_11 (zU) h1_X9_sumsOf_11
theorem mg_X9_sumsOf_11 {d : Nat} : zMet (d := d) X_X9_sumsOf yX9_sumsOf 17 g_X9_sumsOf_11 := zMet_smM m_X9_sumsOfa ev_X9_sumsOf_11
noncomputable def h0_X9_sumsOf_12 : zH 4 := (show zT 4 from ((zk_99_zs1_99_f00_X9_sumsOf_14, (((0, 456, bg_31), zk_99_zs1_99_f00_X9_sumsOf_11), ((0, 66, bg_3), zk_99_zs1_99_f00_X9_sumsOf_0))), zk_99_zs1_99_f00_X9_sumsOf_15), (11, (0, 0)))
noncomputable def h1_X9_sumsOf_12 : zH 4 := (show zT 4 from ((zk_99_zs1_99_f00_X9_sumsOf_14, (((0, 456, bg_31), zk_99_zs1_99_f00_X9_sumsOf_11), ((0, 66, bg_3), zk_99_zs1_99_f00_X9_sumsOf_0))), zk_99_zs1_99_f00_X9_sumsOf_15), (11, (0, 0)))
theorem ev_X9_sumsOf_12 : f_X9_sumsOfa [zR 1, zR 2] h0_X9_sumsOf_12 (zrk (zU) h1_X9_sumsOf_12) = true := by decide +kernel
noncomputable def g_X9_sumsOf_12 {d : Nat} : List zV → zH d → zP d → Bool := zsmyM [(0, 0), (0, 1), (1, 21), (1, 20), (1, 22), (1, 33), (1, 3), (1, 31), (1, 32), (1, 26), (1, 27)] [zR 1, zR 2] h0_X9_sumsOf_12 (zU) h1_X9_sumsOf_12
theorem mg_X9_sumsOf_12 {d : Nat} : zMet (d := d) X_X9_sumsOf yX9_sumsOf 17 g_X9_sumsOf_12 := zMet_smM m_X9_sumsOfa ev_X9_sumsOf_12
noncomputable def h0_X9_sumsOf_13 : zH 4 := (show zT 4 from ((zk_99_zs1_99_f00_X9_sumsOf_14, (((0, 456, bg_31), zk_99_zs1_99_f00_X9_sumsOf_16), ((0, 66, bg_3), zk_99_zs1_99_f00_X9_sumsOf_0))), zk_99_zs1_99_f00_X9_sumsOf_15), (11, (0, 0)))
noncomputable def h1_X9_sumsOf_13 : zH 4 := (show zT 4 from ((zk_99_zs1_99_f00_X9_sumsOf_14, (((0, 456, bg_31), zk_99_zs1_99_f00_X9_sumsOf_16), ((0, 66, bg_3), zk_99_zs1_99_f00_X9_sumsOf_0))), zk_99_zs1_99_f00_X9_sumsOf_15), (11, (0, 0)))
theorem ev_X9_sumsOf_13 : f_X9_sumsOfa [zR 1, zR 2] h0_X9_sumsOf_13 (zrk (zU) h1_X9_sumsOf_13) = true := by decide +kernel
noncomputable def g_X9_sumsOf_13 {d : Nat} : List zV → zH d → zP d → Bool := zsmyM [(0, 0), (0, 1), (1, 21), (1, 20), (1, 22), (1, 33), (1, 3), (1, 31), (1, 32), (1, 26), (1, 27)] [zR 1, zR 2] h0_X9_sumsOf_13 (zU) h1_X9_sumsOf_13
theorem mg_X9_sumsOf_13 {d : Nat} : zMet (d := d) X_X9_sumsOf yX9_sumsOf 17 g_X9_sumsOf_13 := zMet_smM m_X9_sumsOfa ev_X9_sumsOf_13
noncomputable def zk_99_zs1_99_f00_X9_sumsOf_17 : zT 2 := @Prod.mk (zT 1) (zT 1) ((25, 63, bg_141), (0, 12000, zun 40 12000 4294967296)) ((0, 11, bg_8), (0, 11, bg_131))
noncomputable def zk_99_zs1_99_f00_X9_sumsOf_18 : zC := (0, 7, 0x100000000010000000000000000040000000003000000000200000000010100000000)
noncomputable def zk_99_zs1_99_f00_X9_sumsOf_19 : zT 3 := @Prod.mk (zT 2) (zT 2) ((zk_99_zs1_99_f00_X9_sumsOf_1, (10, 46656, 4)), ((11, 720, 4), (0, 0, 0))) zO2
noncomputable def h0_X9_sumsOf_14 : zH 4 := (show zT 4 from ((zk_99_zs1_99_f00_X9_sumsOf_17, (((0, 456, bg_34), zk_99_zs1_99_f00_X9_sumsOf_18), ((0, 66, bg_4), zk_99_zs1_99_f00_X9_sumsOf_0))), zk_99_zs1_99_f00_X9_sumsOf_19), (11, (0, 0)))
noncomputable def h1_X9_sumsOf_14 : zH 4 := (show zT 4 from ((zk_99_zs1_99_f00_X9_sumsOf_17, (((0, 456, bg_34), zk_99_zs1_99_f00_X9_sumsOf_18), ((0, 66, bg_4), zk_99_zs1_99_f00_X9_sumsOf_0))), zk_99_zs1_99_f00_X9_sumsOf_19), (11, (0, 0)))
theorem ev_X9_sumsOf_14 : f_X9_sumsOfa [zR 1, zR 2] h0_X9_sumsOf_14 (zrk (zU) h1_X9_sumsOf_14) = true := by decide +kernel
noncomputable def g_X9_sumsOf_14 {d : Nat} : List zV → zH d → zP d → Bool := zsmyM [(0, 0), (0, 1), (1, 21), (1, 20), (1, 22), (1, 33), (1, 3), (1, 31), (1, 32), (1, 26), (1, 27)] [zR 1, zR 2] h0_X9_sumsOf_14 (zU) h1_X9_sumsOf_14
theorem mg_X9_sumsOf_14 {d : Nat} : zMet (d := d) X_X9_sumsOf yX9_sumsOf 17 g_X9_sumsOf_14 := zMet_smM m_X9_sumsOfa ev_X9_sumsOf_14
noncomputable def zk_99_zs1_99_f00_X9_sumsOf_20 : zC := (0, 7, 0x100000000010000000000000000040000000001000000000300000000020100000000)
noncomputable def h0_X9_sumsOf_15 : zH 4 := (show zT 4 from ((zk_99_zs1_99_f00_X9_sumsOf_17, (((0, 456, bg_34), zk_99_zs1_99_f00_X9_sumsOf_20), ((0, 66, bg_4), zk_99_zs1_99_f00_X9_sumsOf_0))), zk_99_zs1_99_f00_X9_sumsOf_19), (11, (0, 0)))
noncomputable def h1_X9_sumsOf_15 : zH 4 := (show zT 4 from ((zk_99_zs1_99_f00_X9_sumsOf_17, (((0, 456, bg_34), zk_99_zs1_99_f00_X9_sumsOf_20), ((0, 66, bg_4), zk_99_zs1_99_f00_X9_sumsOf_0))), zk_99_zs1_99_f00_X9_sumsOf_19), (11, (0, 0)))
theorem ev_X9_sumsOf_15 : f_X9_sumsOfa [zR 1, zR 2] h0_X9_sumsOf_15 (zrk (zU) h1_X9_sumsOf_15) = true := by decide +kernel
noncomputable def g_X9_sumsOf_15 {d : Nat} : List zV → zH d → zP d → Bool := zsmyM [(0, 0), (0, 1), (1, 21), (1, 20), (1, 22), (1, 33), (1, 3), (1, 31), (1, 32), (1, 26), (1, 27)] [zR 1, zR 2] h0_X9_sumsOf_15 (zU) h1_X9_sumsOf_15
theorem mg_X9_sumsOf_15 {d : Nat} : zMet (d := d) X_X9_sumsOf yX9_sumsOf 17 g_X9_sumsOf_15 := zMet_smM m_X9_sumsOfa ev_X9_sumsOf_15
noncomputable def zk_99_zs1_99_f00_X9_sumsOf_21 : zT 2 := @Prod.mk (zT 1) (zT 1) ((25, 63, bg_142), (0, 12000, zun 40 12000 4294967296)) ((0, 11, bg_143), (0, 11, bg_135))
noncomputable def zk_99_zs1_99_f00_X9_sumsOf_22 : zT 3 := @Prod.mk (zT 2) (zT 2) ((zk_99_zs1_99_f00_X9_sumsOf_1, (10, 46656, 11)), ((11, 720, 11), (0, 0, 0))) zO2
noncomputable def h0_X9_sumsOf_16 : zH 4 := (show zT 4 from ((zk_99_zs1_99_f00_X9_sumsOf_21, (((0, 456, bg_37), zk_99_zs1_99_f00_X9_sumsOf_18), ((0, 66, bg_4), zk_99_zs1_99_f00_X9_sumsOf_0))), zk_99_zs1_99_f00_X9_sumsOf_22), (11, (0, 0)))
noncomputable def h1_X9_sumsOf_16 : zH 4 := (show zT 4 from ((zk_99_zs1_99_f00_X9_sumsOf_21, (((0, 456, bg_37), zk_99_zs1_99_f00_X9_sumsOf_18), ((0, 66, bg_4), zk_99_zs1_99_f00_X9_sumsOf_0))), zk_99_zs1_99_f00_X9_sumsOf_22), (11, (0, 0)))
theorem ev_X9_sumsOf_16 : f_X9_sumsOfa [zR 1, zR 2] h0_X9_sumsOf_16 (zrk (zU) h1_X9_sumsOf_16) = true := by decide +kernel
noncomputable def g_X9_sumsOf_16 {d : Nat} : List zV → zH d → zP d → Bool := zsmyM [(0, 0), (0, 1), (1, 21), (1, 20), (1, 22), (1, 33), (1, 3), (1, 31), (1, 32), (1, 26), (1, 27)] [zR 1, zR 2] h0_X9_sumsOf_16 (zU) h1_X9_sumsOf_16
theorem mg_X9_sumsOf_16 {d : Nat} : zMet (d := d) X_X9_sumsOf yX9_sumsOf 17 g_X9_sumsOf_16 := zMet_smM m_X9_sumsOfa ev_X9_sumsOf_16
noncomputable def h0_X9_sumsOf_17 : zH 4 := (show zT 4 from ((zk_99_zs1_99_f00_X9_sumsOf_21, (((0, 456, bg_37), zk_99_zs1_99_f00_X9_sumsOf_20), ((0, 66, bg_4), zk_99_zs1_99_f00_X9_sumsOf_0))), zk_99_zs1_99_f00_X9_sumsOf_22), (11, (0, 0)))
noncomputable def h1_X9_sumsOf_17 : zH 4 := (show zT 4 from ((zk_99_zs1_99_f00_X9_sumsOf_21, (((0, 456, bg_37), zk_99_zs1_99_f00_X9_sumsOf_20), ((0, 66, bg_4), zk_99_zs1_99_f00_X9_sumsOf_0))), zk_99_zs1_99_f00_X9_sumsOf_22), (11, (0, 0)))
theorem ev_X9_sumsOf_17 : f_X9_sumsOfa [zR 1, zR 2] h0_X9_sumsOf_17 (zrk (zU) h1_X9_sumsOf_17) = true := by decide +kernel
noncomputable def g_X9_sumsOf_17 {d : Nat} : List zV → zH d → zP d → Bool := zsmyM [(0, 0), (0, 1), (1, 21), (1, 20), (1, 22), (1, 33), (1, 3), (1, 31), (1, 32), (1, 26), (1, 27)] [zR 1, zR 2] h0_X9_sumsOf_17 (zU) h1_X9_sumsOf_17
theorem mg_X9_sumsOf_17 {d : Nat} : zMet (d := d) X_X9_sumsOf yX9_sumsOf 17 g_X9_sumsOf_17 := zMet_smM m_X9_sumsOfa ev_X9_sumsOf_17
noncomputable def zk_99_zs1_99_f00_X9_sumsOf_23 : zT 2 := @Prod.mk (zT 1) (zT 1) ((25, 63, bg_144), (0, 12000, zun 40 12000 4294967296)) ((0, 11, bg_145), (0, 11, bg_146))
noncomputable def zk_99_zs1_99_f00_X9_sumsOf_24 : zT 3 := @Prod.mk (zT 2) (zT 2) ((zk_99_zs1_99_f00_X9_sumsOf_1, (10, 46656, 18)), ((11, 720, 18), (0, 0, 0))) zO2
noncomputable def h0_X9_sumsOf_18 : zH 4 := (show zT 4 from ((zk_99_zs1_99_f00_X9_sumsOf_23, (((0, 456, bg_40), zk_99_zs1_99_f00_X9_sumsOf_18), ((0, 66, bg_4), zk_99_zs1_99_f00_X9_sumsOf_0))), zk_99_zs1_99_f00_X9_sumsOf_24), (11, (0, 0)))
noncomputable def h1_X9_sumsOf_18 : zH 4 := (show zT 4 from ((zk_99_zs1_99_f00_X9_sumsOf_23, (((0, 456, bg_40), zk_99_zs1_99_f00_X9_sumsOf_18), ((0, 66, bg_4), zk_99_zs1_99_f00_X9_sumsOf_0))), zk_99_zs1_99_f00_X9_sumsOf_24), (11, (0, 0)))
theorem ev_X9_sumsOf_18 : f_X9_sumsOfa [zR 1, zR 2] h0_X9_sumsOf_18 (zrk (zU) h1_X9_sumsOf_18) = true := by decide +kernel
noncomputable def g_X9_sumsOf_18 {d : Nat} : List zV → zH d → zP d → Bool := zsmyM [(0, 0), (0, 1), (1, 21), (1, 20), (1, 22), (1, 33), (1, 3), (1, 31), (1, 32), (1, 26), (1, 27)] [zR 1, zR 2] h0_X9_sumsOf_18 (zU) h1_X9_sumsOf_18
theorem mg_X9_sumsOf_18 {d : Nat} : zMet (d := d) X_X9_sumsOf yX9_sumsOf 17 g_X9_sumsOf_18 := zMet_smM m_X9_sumsOfa ev_X9_sumsOf_18
noncomputable def zk_99_zs1_99_f00_X9_sumsOf_25 : zT 2 := @Prod.mk (zT 1) (zT 1) ((25, 63, bg_147), (0, 12000, zun 40 12000 4294967296)) ((0, 11, bg_148), (0, 11, bg_149))
noncomputable def zk_99_zs1_99_f00_X9_sumsOf_26 : zT 3 := @Prod.mk (zT 2) (zT 2) ((zk_99_zs1_99_f00_X9_sumsOf_1, (10, 46656, 74)), ((11, 720, 74), (0, 0, 0))) zO2
noncomputable def h0_X9_sumsOf_19 : zH 4 := (show zT 4 from ((zk_99_zs1_99_f00_X9_sumsOf_25, (((0, 456, bg_43), zk_99_zs1_99_f00_X9_sumsOf_18), ((0, 66, bg_4), zk_99_zs1_99_f00_X9_sumsOf_0))), zk_99_zs1_99_f00_X9_sumsOf_26), (11, (0, 0)))
noncomputable def h1_X9_sumsOf_19 : zH 4 := (show zT 4 from ((zk_99_zs1_99_f00_X9_sumsOf_25, (((0, 456, bg_43), zk_99_zs1_99_f00_X9_sumsOf_18), ((0, 66, bg_4), zk_99_zs1_99_f00_X9_sumsOf_0))), zk_99_zs1_99_f00_X9_sumsOf_26), (11, (0, 0)))
theorem ev_X9_sumsOf_19 : f_X9_sumsOfa [zR 1, zR 2] h0_X9_sumsOf_19 (zrk (zU) h1_X9_sumsOf_19) = true := by decide +kernel
noncomputable def g_X9_sumsOf_19 {d : Nat} : List zV → zH d → zP d → Bool := zsmyM [(0, 0), (0, 1), (1, 21), (1, 20), (1, 22), (1, 33), (1, 3), (1, 31), (1, 32), (1, 26), (1, 27)] [zR 1, zR 2] h0_X9_sumsOf_19 (zU) h1_X9_sumsOf_19
theorem mg_X9_sumsOf_19 {d : Nat} : zMet (d := d) X_X9_sumsOf yX9_sumsOf 17 g_X9_sumsOf_19 := zMet_smM m_X9_sumsOfa ev_X9_sumsOf_19
noncomputable def zk_99_zs1_99_f00_X9_sumsOf_27 : zT 2 := @Prod.mk (zT 1) (zT 1) ((25, 63, bg_150), (0, 12000, zun 40 12000 4294967296)) ((0, 11, bg_151), (0, 11, bg_152))
noncomputable def zk_99_zs1_99_f00_X9_sumsOf_28 : zT 3 := @Prod.mk (zT 2) (zT 2) ((zk_99_zs1_99_f00_X9_sumsOf_1, (10, 46656, 585)), ((11, 720, 585), (0, 0, 0))) zO2
noncomputable def h0_X9_sumsOf_20 : zH 4 := (show zT 4 from ((zk_99_zs1_99_f00_X9_sumsOf_27, (((0, 456, bg_46), zk_99_zs1_99_f00_X9_sumsOf_18), ((0, 66, bg_4), zk_99_zs1_99_f00_X9_sumsOf_0))), zk_99_zs1_99_f00_X9_sumsOf_28), (11, (0, 0)))
noncomputable def h1_X9_sumsOf_20 : zH 4 := (show zT 4 from ((zk_99_zs1_99_f00_X9_sumsOf_27, (((0, 456, bg_46), zk_99_zs1_99_f00_X9_sumsOf_18), ((0, 66, bg_4), zk_99_zs1_99_f00_X9_sumsOf_0))), zk_99_zs1_99_f00_X9_sumsOf_28), (11, (0, 0)))
theorem ev_X9_sumsOf_20 : f_X9_sumsOfa [zR 1, zR 2] h0_X9_sumsOf_20 (zrk (zU) h1_X9_sumsOf_20) = true := by decide +kernel
noncomputable def g_X9_sumsOf_20 {d : Nat} : List zV → zH d → zP d → Bool := zsmyM [(0, 0), (0, 1), (1, 21), (1, 20), (1, 22), (1, 33), (1, 3), (1, 31), (1, 32), (1, 26), (1, 27)] [zR 1, zR 2] h0_X9_sumsOf_20 (zU) h1_X9_sumsOf_20
theorem mg_X9_sumsOf_20 {d : Nat} : zMet (d := d) X_X9_sumsOf yX9_sumsOf 17 g_X9_sumsOf_20 := zMet_smM m_X9_sumsOfa ev_X9_sumsOf_20
noncomputable def zk_99_zs1_99_f00_X9_sumsOf_29 : zC := (0, 7, 0x100000000010000000000000000010000000004000000000300000000020100000000)
noncomputable def h0_X9_sumsOf_21 : zH 4 := (show zT 4 from ((zk_99_zs1_99_f00_X9_sumsOf_17, (((0, 456, bg_34), zk_99_zs1_99_f00_X9_sumsOf_29), ((0, 66, bg_4), zk_99_zs1_99_f00_X9_sumsOf_0))), zk_99_zs1_99_f00_X9_sumsOf_19), (11, (0, 0)))
noncomputable def h1_X9_sumsOf_21 : zH 4 := (show zT 4 from ((zk_99_zs1_99_f00_X9_sumsOf_17, (((0, 456, bg_34), zk_99_zs1_99_f00_X9_sumsOf_29), ((0, 66, bg_4), zk_99_zs1_99_f00_X9_sumsOf_0))), zk_99_zs1_99_f00_X9_sumsOf_19), (11, (0, 0)))
theorem ev_X9_sumsOf_21 : f_X9_sumsOfa [zR 1, zR 2] h0_X9_sumsOf_21 (zrk (zU) h1_X9_sumsOf_21) = true := by decide +kernel
noncomputable def g_X9_sumsOf_21 {d : Nat} : List zV → zH d → zP d → Bool := zsmyM [(0, 0), (0, 1), (1, 21), (1, 20), (1, 22), (1, 33), (1, 3), (1, 31), (1, 32), (1, 26), (1, 27)] [zR 1, zR 2] h0_X9_sumsOf_21 (zU) h1_X9_sumsOf_21
theorem mg_X9_sumsOf_21 {d : Nat} : zMet (d := d) X_X9_sumsOf yX9_sumsOf 17 g_X9_sumsOf_21 := zMet_smM m_X9_sumsOfa ev_X9_sumsOf_21
noncomputable def zk_99_zs1_99_f00_X9_sumsOf_30 : zC := (0, 7, 0x100000000010000000000000000020000000001000000000400000000030100000000)
noncomputable def h0_X9_sumsOf_22 : zH 4 := (show zT 4 from ((zk_99_zs1_99_f00_X9_sumsOf_17, (((0, 456, bg_34), zk_99_zs1_99_f00_X9_sumsOf_30), ((0, 66, bg_4), zk_99_zs1_99_f00_X9_sumsOf_0))), zk_99_zs1_99_f00_X9_sumsOf_19), (11, (0, 0)))
noncomputable def h1_X9_sumsOf_22 : zH 4 := (show zT 4 from ((zk_99_zs1_99_f00_X9_sumsOf_17, (((0, 456, bg_34), zk_99_zs1_99_f00_X9_sumsOf_30), ((0, 66, bg_4), zk_99_zs1_99_f00_X9_sumsOf_0))), zk_99_zs1_99_f00_X9_sumsOf_19), (11, (0, 0)))
theorem ev_X9_sumsOf_22 : f_X9_sumsOfa [zR 1, zR 2] h0_X9_sumsOf_22 (zrk (zU) h1_X9_sumsOf_22) = true := by decide +kernel
noncomputable def g_X9_sumsOf_22 {d : Nat} : List zV → zH d → zP d → Bool := zsmyM [(0, 0), (0, 1), (1, 21), (1, 20), (1, 22), (1, 33), (1, 3), (1, 31), (1, 32), (1, 26), (1, 27)] [zR 1, zR 2] h0_X9_sumsOf_22 (zU) h1_X9_sumsOf_22
theorem mg_X9_sumsOf_22 {d : Nat} : zMet (d := d) X_X9_sumsOf yX9_sumsOf 17 g_X9_sumsOf_22 := zMet_smM m_X9_sumsOfa ev_X9_sumsOf_22
noncomputable def zk_99_zs1_99_f00_X9_sumsOf_31 : zC := (0, 7, 0x100000000010000000000000000030000000004000000000100000000020100000000)
noncomputable def h0_X9_sumsOf_23 : zH 4 := (show zT 4 from ((zk_99_zs1_99_f00_X9_sumsOf_17, (((0, 456, bg_34), zk_99_zs1_99_f00_X9_sumsOf_31), ((0, 66, bg_4), zk_99_zs1_99_f00_X9_sumsOf_0))), zk_99_zs1_99_f00_X9_sumsOf_19), (11, (0, 0)))
noncomputable def h1_X9_sumsOf_23 : zH 4 := (show zT 4 from ((zk_99_zs1_99_f00_X9_sumsOf_17, (((0, 456, bg_34), zk_99_zs1_99_f00_X9_sumsOf_31), ((0, 66, bg_4), zk_99_zs1_99_f00_X9_sumsOf_0))), zk_99_zs1_99_f00_X9_sumsOf_19), (11, (0, 0)))
theorem ev_X9_sumsOf_23 : f_X9_sumsOfa [zR 1, zR 2] h0_X9_sumsOf_23 (zrk (zU) h1_X9_sumsOf_23) = true := by decide +kernel
noncomputable def g_X9_sumsOf_23 {d : Nat} : List zV → zH d → zP d → Bool := zsmyM [(0, 0), (0, 1), (1, 21), (1, 20), (1, 22), (1, 33), (1, 3), (1, 31), (1, 32), (1, 26), (1, 27)] [zR 1, zR 2] h0_X9_sumsOf_23 (zU) h1_X9_sumsOf_23
theorem mg_X9_sumsOf_23 {d : Nat} : zMet (d := d) X_X9_sumsOf yX9_sumsOf 17 g_X9_sumsOf_23 := zMet_smM m_X9_sumsOfa ev_X9_sumsOf_23
noncomputable def zk_99_zs1_99_f00_X9_sumsOf_32 : zC := (0, 7, 0x100000000010000000000000000040000000003000000000100000000020100000000)
noncomputable def h0_X9_sumsOf_24 : zH 4 := (show zT 4 from ((zk_99_zs1_99_f00_X9_sumsOf_17, (((0, 456, bg_34), zk_99_zs1_99_f00_X9_sumsOf_32), ((0, 66, bg_4), zk_99_zs1_99_f00_X9_sumsOf_0))), zk_99_zs1_99_f00_X9_sumsOf_19), (11, (0, 0)))
noncomputable def h1_X9_sumsOf_24 : zH 4 := (show zT 4 from ((zk_99_zs1_99_f00_X9_sumsOf_17, (((0, 456, bg_34), zk_99_zs1_99_f00_X9_sumsOf_32), ((0, 66, bg_4), zk_99_zs1_99_f00_X9_sumsOf_0))), zk_99_zs1_99_f00_X9_sumsOf_19), (11, (0, 0)))
theorem ev_X9_sumsOf_24 : f_X9_sumsOfa [zR 1, zR 2] h0_X9_sumsOf_24 (zrk (zU) h1_X9_sumsOf_24) = true := by decide +kernel
noncomputable def g_X9_sumsOf_24 {d : Nat} : List zV → zH d → zP d → Bool := zsmyM [(0, 0), (0, 1), (1, 21), (1, 20), (1, 22), (1, 33), (1, 3), (1, 31), (1, 32), (1, 26), (1, 27)] [zR 1, zR 2] h0_X9_sumsOf_24 (zU) h1_X9_sumsOf_24
theorem mg_X9_sumsOf_24 {d : Nat} : zMet (d := d) X_X9_sumsOf yX9_sumsOf 17 g_X9_sumsOf_24 := zMet_smM m_X9_sumsOfa ev_X9_sumsOf_24
noncomputable def h0_X9_sumsOf_25 : zH 4 := (show zT 4 from ((zk_99_zs1_99_f00_X9_sumsOf_21, (((0, 456, bg_37), zk_99_zs1_99_f00_X9_sumsOf_29), ((0, 66, bg_4), zk_99_zs1_99_f00_X9_sumsOf_0))), zk_99_zs1_99_f00_X9_sumsOf_22), (11, (0, 0)))
noncomputable def h1_X9_sumsOf_25 : zH 4 := (show zT 4 from ((zk_99_zs1_99_f00_X9_sumsOf_21, (((0, 456, bg_37), zk_99_zs1_99_f00_X9_sumsOf_29), ((0, 66, bg_4), zk_99_zs1_99_f00_X9_sumsOf_0))), zk_99_zs1_99_f00_X9_sumsOf_22), (11, (0, 0)))
theorem ev_X9_sumsOf_25 : f_X9_sumsOfa [zR 1, zR 2] h0_X9_sumsOf_25 (zrk (zU) h1_X9_sumsOf_25) = true := by decide +kernel
noncomputable def g_X9_sumsOf_25 {d : Nat} : List zV → zH d → zP d → Bool := zsmyM [(0, 0), (0, 1), (1, 21), (1, 20), (1, 22), (1, 33), (1, 3), (1, 31), (1, 32), (1, 26), (1, 27)] [zR 1, zR 2] h0_X9_sumsOf_25 (zU) h1_X9_sumsOf_25
theorem mg_X9_sumsOf_25 {d : Nat} : zMet (d := d) X_X9_sumsOf yX9_sumsOf 17 g_X9_sumsOf_25 := zMet_smM m_X9_sumsOfa ev_X9_sumsOf_25
noncomputable def h0_X9_sumsOf_26 : zH 4 := (show zT 4 from ((zk_99_zs1_99_f00_X9_sumsOf_21, (((0, 456, bg_37), zk_99_zs1_99_f00_X9_sumsOf_30), ((0, 66, bg_4), zk_99_zs1_99_f00_X9_sumsOf_0))), zk_99_zs1_99_f00_X9_sumsOf_22), (11, (0, 0)))
noncomputable def h1_X9_sumsOf_26 : zH 4 := (show zT 4 from ((zk_99_zs1_99_f00_X9_sumsOf_21, (((0, 456, bg_37), zk_99_zs1_99_f00_X9_sumsOf_30), ((0, 66, bg_4), zk_99_zs1_99_f00_X9_sumsOf_0))), zk_99_zs1_99_f00_X9_sumsOf_22), (11, (0, 0)))
theorem ev_X9_sumsOf_26 : f_X9_sumsOfa [zR 1, zR 2] h0_X9_sumsOf_26 (zrk (zU) h1_X9_sumsOf_26) = true := by decide +kernel
noncomputable def g_X9_sumsOf_26 {d : Nat} : List zV → zH d → zP d → Bool := zsmyM [(0, 0), (0, 1), (1, 21), (1, 20), (1, 22), (1, 33), (1, 3), (1, 31), (1, 32), (1, 26), (1, 27)] [zR 1, zR 2] h0_X9_sumsOf_26 (zU) h1_X9_sumsOf_26
theorem mg_X9_sumsOf_26 {d : Nat} : zMet (d := d) X_X9_sumsOf yX9_sumsOf 17 g_X9_sumsOf_26 := zMet_smM m_X9_sumsOfa ev_X9_sumsOf_26
noncomputable def h0_X9_sumsOf_27 : zH 4 := (show zT 4 from ((zk_99_zs1_99_f00_X9_sumsOf_21, (((0, 456, bg_37), zk_99_zs1_99_f00_X9_sumsOf_31), ((0, 66, bg_4), zk_99_zs1_99_f00_X9_sumsOf_0))), zk_99_zs1_99_f00_X9_sumsOf_22), (11, (0, 0)))
noncomputable def h1_X9_sumsOf_27 : zH 4 := (show zT 4 from ((zk_99_zs1_99_f00_X9_sumsOf_21, (((0, 456, bg_37), zk_99_zs1_99_f00_X9_sumsOf_31), ((0, 66, bg_4), zk_99_zs1_99_f00_X9_sumsOf_0))), zk_99_zs1_99_f00_X9_sumsOf_22), (11, (0, 0)))
theorem ev_X9_sumsOf_27 : f_X9_sumsOfa [zR 1, zR 2] h0_X9_sumsOf_27 (zrk (zU) h1_X9_sumsOf_27) = true := by decide +kernel
noncomputable def g_X9_sumsOf_27 {d : Nat} : List zV → zH d → zP d → Bool := zsmyM [(0, 0), (0, 1), (1, 21), (1, 20), (1, 22), (1, 33), (1, 3), (1, 31), (1, 32), (1, 26), (1, 27)] [zR 1, zR 2] h0_X9_sumsOf_27 (zU) h1_X9_sumsOf_27
theorem mg_X9_sumsOf_27 {d : Nat} : zMet (d := d) X_X9_sumsOf yX9_sumsOf 17 g_X9_sumsOf_27 := zMet_smM m_X9_sumsOfa ev_X9_sumsOf_27
noncomputable def h0_X9_sumsOf_28 : zH 4 := (show zT 4 from ((zk_99_zs1_99_f00_X9_sumsOf_21, (((0, 456, bg_37), zk_99_zs1_99_f00_X9_sumsOf_32), ((0, 66, bg_4), zk_99_zs1_99_f00_X9_sumsOf_0))), zk_99_zs1_99_f00_X9_sumsOf_22), (11, (0, 0)))
noncomputable def h1_X9_sumsOf_28 : zH 4 := (show zT 4 from ((zk_99_zs1_99_f00_X9_sumsOf_21, (((0, 456, bg_37), zk_99_zs1_99_f00_X9_sumsOf_32), ((0, 66, bg_4), zk_99_zs1_99_f00_X9_sumsOf_0))), zk_99_zs1_99_f00_X9_sumsOf_22), (11, (0, 0)))
theorem ev_X9_sumsOf_28 : f_X9_sumsOfa [zR 1, zR 2] h0_X9_sumsOf_28 (zrk (zU) h1_X9_sumsOf_28) = true := by decide +kernel
noncomputable def g_X9_sumsOf_28 {d : Nat} : List zV → zH d → zP d → Bool := zsmyM [(0, 0), (0, 1), (1, 21), (1, 20), (1, 22), (1, 33), (1, 3), (1, 31), (1, 32), (1, 26), (1, 27)] [zR 1, zR 2] h0_X9_sumsOf_28 (zU) h1_X9_sumsOf_28
theorem mg_X9_sumsOf_28 {d : Nat} : zMet (d := d) X_X9_sumsOf yX9_sumsOf 17 g_X9_sumsOf_28 := zMet_smM m_X9_sumsOfa ev_X9_sumsOf_28
noncomputable def h0_X9_sumsOf_29 : zH 4 := (show zT 4 from ((zk_99_zs1_99_f00_X9_sumsOf_23, (((0, 456, bg_40), zk_99_zs1_99_f00_X9_sumsOf_29), ((0, 66, bg_4), zk_99_zs1_99_f00_X9_sumsOf_0))), zk_99_zs1_99_f00_X9_sumsOf_24), (11, (0, 0)))
noncomputable def h1_X9_sumsOf_29 : zH 4 := (show zT 4 from ((zk_99_zs1_99_f00_X9_sumsOf_23, (((0, 456, bg_40), zk_99_zs1_99_f00_X9_sumsOf_29), ((0, 66, bg_4), zk_99_zs1_99_f00_X9_sumsOf_0))), zk_99_zs1_99_f00_X9_sumsOf_24), (11, (0, 0)))
theorem ev_X9_sumsOf_29 : f_X9_sumsOfa [zR 1, zR 2] h0_X9_sumsOf_29 (zrk (zU) h1_X9_sumsOf_29) = true := by decide +kernel
noncomputable def g_X9_sumsOf_29 {d : Nat} : List zV → zH d → zP d → Bool := zsmyM [(0, 0), (0, 1), (1, 21), (1, 20), (1, 22), (1, 33), (1, 3), (1, 31), (1, 32), (1, 26), (1, 27)] [zR 1, zR 2] h0_X9_sumsOf_29 (zU) h1_X9_sumsOf_29
theorem mg_X9_sumsOf_29 {d : Nat} : zMet (d := d) X_X9_sumsOf yX9_sumsOf 17 g_X9_sumsOf_29 := zMet_smM m_X9_sumsOfa ev_X9_sumsOf_29
noncomputable def h0_X9_sumsOf_30 : zH 4 := (show zT 4 from ((zk_99_zs1_99_f00_X9_sumsOf_23, (((0, 456, bg_40), zk_99_zs1_99_f00_X9_sumsOf_30), ((0, 66, bg_4), zk_99_zs1_99_f00_X9_sumsOf_0))), zk_99_zs1_99_f00_X9_sumsOf_24), (11, (0, 0)))
noncomputable def h1_X9_sumsOf_30 : zH 4 := (show zT 4 from ((zk_99_zs1_99_f00_X9_sumsOf_23, (((0, 456, bg_40), zk_99_zs1_99_f00_X9_sumsOf_30), ((0, 66, bg_4), zk_99_zs1_99_f00_X9_sumsOf_0))), zk_99_zs1_99_f00_X9_sumsOf_24), (11, (0, 0)))
theorem ev_X9_sumsOf_30 : f_X9_sumsOfa [zR 1, zR 2] h0_X9_sumsOf_30 (zrk (zU) h1_X9_sumsOf_30) = true := by decide +kernel
noncomputable def g_X9_sumsOf_30 {d : Nat} : List zV → zH d → zP d → Bool := zsmyM [(0, 0), (0, 1), (1, 21), (1, 20), (1, 22), (1, 33), (1, 3), (1, 31), (1, 32), (1, 26), (1, 27)] [zR 1, zR 2] h0_X9_sumsOf_30 (zU) h1_X9_sumsOf_30
theorem mg_X9_sumsOf_30 {d : Nat} : zMet (d := d) X_X9_sumsOf yX9_sumsOf 17 g_X9_sumsOf_30 := zMet_smM m_X9_sumsOfa ev_X9_sumsOf_30
noncomputable def h0_X9_sumsOf_31 : zH 4 := (show zT 4 from ((zk_99_zs1_99_f00_X9_sumsOf_23, (((0, 456, bg_40), zk_99_zs1_99_f00_X9_sumsOf_31), ((0, 66, bg_4), zk_99_zs1_99_f00_X9_sumsOf_0))), zk_99_zs1_99_f00_X9_sumsOf_24), (11, (0, 0)))
noncomputable def h1_X9_sumsOf_31 : zH 4 := (show zT 4 from ((zk_99_zs1_99_f00_X9_sumsOf_23, (((0, 456, bg_40), zk_99_zs1_99_f00_X9_sumsOf_31), ((0, 66, bg_4), zk_99_zs1_99_f00_X9_sumsOf_0))), zk_99_zs1_99_f00_X9_sumsOf_24), (11, (0, 0)))
theorem ev_X9_sumsOf_31 : f_X9_sumsOfa [zR 1, zR 2] h0_X9_sumsOf_31 (zrk (zU) h1_X9_sumsOf_31) = true := by decide +kernel
noncomputable def g_X9_sumsOf_31 {d : Nat} : List zV → zH d → zP d → Bool := zsmyM [(0, 0), (0, 1), (1, 21), (1, 20), (1, 22), (1, 33), (1, 3), (1, 31), (1, 32), (1, 26), (1, 27)] [zR 1, zR 2] h0_X9_sumsOf_31 (zU) h1_X9_sumsOf_31
theorem mg_X9_sumsOf_31 {d : Nat} : zMet (d := d) X_X9_sumsOf yX9_sumsOf 17 g_X9_sumsOf_31 := zMet_smM m_X9_sumsOfa ev_X9_sumsOf_31
noncomputable def h0_X9_sumsOf_32 : zH 4 := (show zT 4 from ((zk_99_zs1_99_f00_X9_sumsOf_23, (((0, 456, bg_40), zk_99_zs1_99_f00_X9_sumsOf_32), ((0, 66, bg_4), zk_99_zs1_99_f00_X9_sumsOf_0))), zk_99_zs1_99_f00_X9_sumsOf_24), (11, (0, 0)))
noncomputable def h1_X9_sumsOf_32 : zH 4 := (show zT 4 from ((zk_99_zs1_99_f00_X9_sumsOf_23, (((0, 456, bg_40), zk_99_zs1_99_f00_X9_sumsOf_32), ((0, 66, bg_4), zk_99_zs1_99_f00_X9_sumsOf_0))), zk_99_zs1_99_f00_X9_sumsOf_24), (11, (0, 0)))
theorem ev_X9_sumsOf_32 : f_X9_sumsOfa [zR 1, zR 2] h0_X9_sumsOf_32 (zrk (zU) h1_X9_sumsOf_32) = true := by decide +kernel
noncomputable def g_X9_sumsOf_32 {d : Nat} : List zV → zH d → zP d → Bool := zsmyM [(0, 0), (0, 1), (1, 21), (1, 20), (1, 22), (1, 33), (1, 3), (1, 31), (1, 32), (1, 26), (1, 27)] [zR 1, zR 2] h0_X9_sumsOf_32 (zU) h1_X9_sumsOf_32
theorem mg_X9_sumsOf_32 {d : Nat} : zMet (d := d) X_X9_sumsOf yX9_sumsOf 17 g_X9_sumsOf_32 := zMet_smM m_X9_sumsOfa ev_X9_sumsOf_32
noncomputable def h0_X9_sumsOf_33 : zH 4 := (show zT 4 from ((zk_99_zs1_99_f00_X9_sumsOf_25, (((0, 456, bg_43), zk_99_zs1_99_f00_X9_sumsOf_29), ((0, 66, bg_4), zk_99_zs1_99_f00_X9_sumsOf_0))), zk_99_zs1_99_f00_X9_sumsOf_26), (11, (0, 0)))
noncomputable def h1_X9_sumsOf_33 : zH 4 := (show zT 4 from ((zk_99_zs1_99_f00_X9_sumsOf_25, (((0, 456, bg_43), zk_99_zs1_99_f00_X9_sumsOf_29), ((0, 66, bg_4), zk_99_zs1_99_f00_X9_sumsOf_0))), zk_99_zs1_99_f00_X9_sumsOf_26), (11, (0, 0)))
theorem ev_X9_sumsOf_33 : f_X9_sumsOfa [zR 1, zR 2] h0_X9_sumsOf_33 (zrk (zU) h1_X9_sumsOf_33) = true := by decide +kernel
noncomputable def g_X9_sumsOf_33 {d : Nat} : List zV → zH d → zP d → Bool := zsmyM [(0, 0), (0, 1), (1, 21), (1, 20), (1, 22), (1, 33), (1, 3), (1, 31), (1, 32), (1, 26), (1, 27)] [zR 1, zR 2] h0_X9_sumsOf_33 (zU) h1_X9_sumsOf_33
theorem mg_X9_sumsOf_33 {d : Nat} : zMet (d := d) X_X9_sumsOf yX9_sumsOf 17 g_X9_sumsOf_33 := zMet_smM m_X9_sumsOfa ev_X9_sumsOf_33
noncomputable def h0_X9_sumsOf_34 : zH 4 := (show zT 4 from ((zk_99_zs1_99_f00_X9_sumsOf_25, (((0, 456, bg_43), zk_99_zs1_99_f00_X9_sumsOf_30), ((0, 66, bg_4), zk_99_zs1_99_f00_X9_sumsOf_0))), zk_99_zs1_99_f00_X9_sumsOf_26), (11, (0, 0)))
noncomputable def h1_X9_sumsOf_34 : zH 4 := (show zT 4 from ((zk_99_zs1_99_f00_X9_sumsOf_25, (((0, 456, bg_43), zk_99_zs1_99_f00_X9_sumsOf_30), ((0, 66, bg_4), zk_99_zs1_99_f00_X9_sumsOf_0))), zk_99_zs1_99_f00_X9_sumsOf_26), (11, (0, 0)))
theorem ev_X9_sumsOf_34 : f_X9_sumsOfa [zR 1, zR 2] h0_X9_sumsOf_34 (zrk (zU) h1_X9_sumsOf_34) = true := by decide +kernel
noncomputable def g_X9_sumsOf_34 {d : Nat} : List zV → zH d → zP d → Bool := zsmyM [(0, 0), (0, 1), (1, 21), (1, 20), (1, 22), (1, 33), (1, 3), (1, 31), (1, 32), (1, 26), (1, 27)] [zR 1, zR 2] h0_X9_sumsOf_34 (zU) h1_X9_sumsOf_34
theorem mg_X9_sumsOf_34 {d : Nat} : zMet (d := d) X_X9_sumsOf yX9_sumsOf 17 g_X9_sumsOf_34 := zMet_smM m_X9_sumsOfa ev_X9_sumsOf_34
noncomputable def h0_X9_sumsOf_35 : zH 4 := (show zT 4 from ((zk_99_zs1_99_f00_X9_sumsOf_25, (((0, 456, bg_43), zk_99_zs1_99_f00_X9_sumsOf_31), ((0, 66, bg_4), zk_99_zs1_99_f00_X9_sumsOf_0))), zk_99_zs1_99_f00_X9_sumsOf_26), (11, (0, 0)))
noncomputable def h1_X9_sumsOf_35 : zH 4 := (show zT 4 from ((zk_99_zs1_99_f00_X9_sumsOf_25, (((0, 456, bg_43), zk_99_zs1_99_f00_X9_sumsOf_31), ((0, 66, bg_4), zk_99_zs1_99_f00_X9_sumsOf_0))), zk_99_zs1_99_f00_X9_sumsOf_26), (11, (0, 0)))
theorem ev_X9_sumsOf_35 : f_X9_sumsOfa [zR 1, zR 2] h0_X9_sumsOf_35 (zrk (zU) h1_X9_sumsOf_35) = true := by decide +kernel
noncomputable def g_X9_sumsOf_35 {d : Nat} : List zV → zH d → zP d → Bool := zsmyM [(0, 0), (0, 1), (1, 21), (1, 20), (1, 22), (1, 33), (1, 3), (1, 31), (1, 32), (1, 26), (1, 27)] [zR 1, zR 2] h0_X9_sumsOf_35 (zU) h1_X9_sumsOf_35
theorem mg_X9_sumsOf_35 {d : Nat} : zMet (d := d) X_X9_sumsOf yX9_sumsOf 17 g_X9_sumsOf_35 := zMet_smM m_X9_sumsOfa ev_X9_sumsOf_35
noncomputable def h0_X9_sumsOf_36 : zH 4 := (show zT 4 from ((zk_99_zs1_99_f00_X9_sumsOf_25, (((0, 456, bg_43), zk_99_zs1_99_f00_X9_sumsOf_32), ((0, 66, bg_4), zk_99_zs1_99_f00_X9_sumsOf_0))), zk_99_zs1_99_f00_X9_sumsOf_26), (11, (0, 0)))
noncomputable def h1_X9_sumsOf_36 : zH 4 := (show zT 4 from ((zk_99_zs1_99_f00_X9_sumsOf_25, (((0, 456, bg_43), zk_99_zs1_99_f00_X9_sumsOf_32), ((0, 66, bg_4), zk_99_zs1_99_f00_X9_sumsOf_0))), zk_99_zs1_99_f00_X9_sumsOf_26), (11, (0, 0)))
theorem ev_X9_sumsOf_36 : f_X9_sumsOfa [zR 1, zR 2] h0_X9_sumsOf_36 (zrk (zU) h1_X9_sumsOf_36) = true := by decide +kernel
noncomputable def g_X9_sumsOf_36 {d : Nat} : List zV → zH d → zP d → Bool := zsmyM [(0, 0), (0, 1), (1, 21), (1, 20), (1, 22), (1, 33), (1, 3), (1, 31), (1, 32), (1, 26), (1, 27)] [zR 1, zR 2] h0_X9_sumsOf_36 (zU) h1_X9_sumsOf_36
theorem mg_X9_sumsOf_36 {d : Nat} : zMet (d := d) X_X9_sumsOf yX9_sumsOf 17 g_X9_sumsOf_36 := zMet_smM m_X9_sumsOfa ev_X9_sumsOf_36
noncomputable def h0_X9_sumsOf_37 : zH 4 := (show zT 4 from ((zk_99_zs1_99_f00_X9_sumsOf_23, (((0, 456, bg_40), zk_99_zs1_99_f00_X9_sumsOf_20), ((0, 66, bg_4), zk_99_zs1_99_f00_X9_sumsOf_0))), zk_99_zs1_99_f00_X9_sumsOf_24), (11, (0, 0)))
noncomputable def h1_X9_sumsOf_37 : zH 4 := (show zT 4 from ((zk_99_zs1_99_f00_X9_sumsOf_23, (((0, 456, bg_40), zk_99_zs1_99_f00_X9_sumsOf_20), ((0, 66, bg_4), zk_99_zs1_99_f00_X9_sumsOf_0))), zk_99_zs1_99_f00_X9_sumsOf_24), (11, (0, 0)))
theorem ev_X9_sumsOf_37 : f_X9_sumsOfa [zR 1, zR 2] h0_X9_sumsOf_37 (zrk (zU) h1_X9_sumsOf_37) = true := by decide +kernel
noncomputable def g_X9_sumsOf_37 {d : Nat} : List zV → zH d → zP d → Bool := zsmyM [(0, 0), (0, 1), (1, 21), (1, 20), (1, 22), (1, 33), (1, 3), (1, 31), (1, 32), (1, 26), (1, 27)] [zR 1, zR 2] h0_X9_sumsOf_37 (zU) h1_X9_sumsOf_37
theorem mg_X9_sumsOf_37 {d : Nat} : zMet (d := d) X_X9_sumsOf yX9_sumsOf 17 g_X9_sumsOf_37 := zMet_smM m_X9_sumsOfa ev_X9_sumsOf_37
noncomputable def h0_X9_sumsOf_38 : zH 4 := (show zT 4 from ((zk_99_zs1_99_f00_X9_sumsOf_25, (((0, 456, bg_43), zk_99_zs1_99_f00_X9_sumsOf_20), ((0, 66, bg_4), zk_99_zs1_99_f00_X9_sumsOf_0))), zk_99_zs1_99_f00_X9_sumsOf_26), (11, (0, 0)))
noncomputable def h1_X9_sumsOf_38 : zH 4 := (show zT 4 from ((zk_99_zs1_99_f00_X9_sumsOf_25, (((0, 456, bg_43), zk_99_zs1_99_f00_X9_sumsOf_20), ((0, 66, bg_4), zk_99_zs1_99_f00_X9_sumsOf_0))), zk_99_zs1_99_f00_X9_sumsOf_26), (11, (0, 0)))
theorem ev_X9_sumsOf_38 : f_X9_sumsOfa [zR 1, zR 2] h0_X9_sumsOf_38 (zrk (zU) h1_X9_sumsOf_38) = true := by decide +kernel
noncomputable def g_X9_sumsOf_38 {d : Nat} : List zV → zH d → zP d → Bool := zsmyM [(0, 0), (0, 1), (1, 21), (1, 20), (1, 22), (1, 33), (1, 3), (1, 31), (1, 32), (1, 26), (1, 27)] [zR 1, zR 2] h0_X9_sumsOf_38 (zU) h1_X9_sumsOf_38
theorem mg_X9_sumsOf_38 {d : Nat} : zMet (d := d) X_X9_sumsOf yX9_sumsOf 17 g_X9_sumsOf_38 := zMet_smM m_X9_sumsOfa ev_X9_sumsOf_38
noncomputable def h0_X9_sumsOf_39 : zH 4 := (show zT 4 from ((zk_99_zs1_99_f00_X9_sumsOf_27, (((0, 456, bg_46), zk_99_zs1_99_f00_X9_sumsOf_29), ((0, 66, bg_4), zk_99_zs1_99_f00_X9_sumsOf_0))), zk_99_zs1_99_f00_X9_sumsOf_28), (11, (0, 0)))
noncomputable def h1_X9_sumsOf_39 : zH 4 := (show zT 4 from ((zk_99_zs1_99_f00_X9_sumsOf_27, (((0, 456, bg_46), zk_99_zs1_99_f00_X9_sumsOf_29), ((0, 66, bg_4), zk_99_zs1_99_f00_X9_sumsOf_0))), zk_99_zs1_99_f00_X9_sumsOf_28), (11, (0, 0)))
theorem ev_X9_sumsOf_39 : f_X9_sumsOfa [zR 1, zR 2] h0_X9_sumsOf_39 (zrk (zU) h1_X9_sumsOf_39) = true := by decide +kernel
noncomputable def g_X9_sumsOf_39 {d : Nat} : List zV → zH d → zP d → Bool := zsmyM [(0, 0), (0, 1), (1, 21), (1, 20), (1, 22), (1, 33), (1, 3), (1, 31), (1, 32), (1, 26), (1, 27)] [zR 1, zR 2] h0_X9_sumsOf_39 (zU) h1_X9_sumsOf_39
theorem mg_X9_sumsOf_39 {d : Nat} : zMet (d := d) X_X9_sumsOf yX9_sumsOf 17 g_X9_sumsOf_39 := zMet_smM m_X9_sumsOfa ev_X9_sumsOf_39
noncomputable def h0_X9_sumsOf_40 : zH 4 := (show zT 4 from ((zk_99_zs1_99_f00_X9_sumsOf_27, (((0, 456, bg_46), zk_99_zs1_99_f00_X9_sumsOf_30), ((0, 66, bg_4), zk_99_zs1_99_f00_X9_sumsOf_0))), zk_99_zs1_99_f00_X9_sumsOf_28), (11, (0, 0)))
noncomputable def h1_X9_sumsOf_40 : zH 4 := (show zT 4 from ((zk_99_zs1_99_f00_X9_sumsOf_27, (((0, 456, bg_46), zk_99_zs1_99_f00_X9_sumsOf_30), ((0, 66, bg_4), zk_99_zs1_99_f00_X9_sumsOf_0))), zk_99_zs1_99_f00_X9_sumsOf_28), (11, (0, 0)))
theorem ev_X9_sumsOf_40 : f_X9_sumsOfa [zR 1, zR 2] h0_X9_sumsOf_40 (zrk (zU) h1_X9_sumsOf_40) = true := by decide +kernel
noncomputable def g_X9_sumsOf_40 {d : Nat} : List zV → zH d → zP d → Bool := zsmyM [(0, 0), (0, 1), (1, 21), (1, 20), (1, 22), (1, 33), (1, 3), (1, 31), (1, 32), (1, 26), (1, 27)] [zR 1, zR 2] h0_X9_sumsOf_40 (zU) h1_X9_sumsOf_40
theorem mg_X9_sumsOf_40 {d : Nat} : zMet (d := d) X_X9_sumsOf yX9_sumsOf 17 g_X9_sumsOf_40 := zMet_smM m_X9_sumsOfa ev_X9_sumsOf_40
noncomputable def h0_X9_sumsOf_41 : zH 4 := (show zT 4 from ((zk_99_zs1_99_f00_X9_sumsOf_27, (((0, 456, bg_46), zk_99_zs1_99_f00_X9_sumsOf_20), ((0, 66, bg_4), zk_99_zs1_99_f00_X9_sumsOf_0))), zk_99_zs1_99_f00_X9_sumsOf_28), (11, (0, 0)))
noncomputable def h1_X9_sumsOf_41 : zH 4 := (show zT 4 from ((zk_99_zs1_99_f00_X9_sumsOf_27, (((0, 456, bg_46), zk_99_zs1_99_f00_X9_sumsOf_20), ((0, 66, bg_4), zk_99_zs1_99_f00_X9_sumsOf_0))), zk_99_zs1_99_f00_X9_sumsOf_28), (11, (0, 0)))
theorem ev_X9_sumsOf_41 : f_X9_sumsOfa [zR 1, zR 2] h0_X9_sumsOf_41 (zrk (zU) h1_X9_sumsOf_41) = true := by decide +kernel
noncomputable def g_X9_sumsOf_41 {d : Nat} : List zV → zH d → zP d → Bool := zsmyM [(0, 0), (0, 1), (1, 21), (1, 20), (1, 22), (1, 33), (1, 3), (1, 31), (1, 32), (1, 26), (1, 27)] [zR 1, zR 2] h0_X9_sumsOf_41 (zU) h1_X9_sumsOf_41
theorem mg_X9_sumsOf_41 {d : Nat} : zMet (d := d) X_X9_sumsOf yX9_sumsOf 17 g_X9_sumsOf_41 := zMet_smM m_X9_sumsOfa ev_X9_sumsOf_41
noncomputable def h0_X9_sumsOf_42 : zH 4 := (show zT 4 from ((zk_99_zs1_99_f00_X9_sumsOf_27, (((0, 456, bg_46), zk_99_zs1_99_f00_X9_sumsOf_31), ((0, 66, bg_4), zk_99_zs1_99_f00_X9_sumsOf_0))), zk_99_zs1_99_f00_X9_sumsOf_28), (11, (0, 0)))
noncomputable def h1_X9_sumsOf_42 : zH 4 := (show zT 4 from ((zk_99_zs1_99_f00_X9_sumsOf_27, (((0, 456, bg_46), zk_99_zs1_99_f00_X9_sumsOf_31), ((0, 66, bg_4), zk_99_zs1_99_f00_X9_sumsOf_0))), zk_99_zs1_99_f00_X9_sumsOf_28), (11, (0, 0)))
theorem ev_X9_sumsOf_42 : f_X9_sumsOfa [zR 1, zR 2] h0_X9_sumsOf_42 (zrk (zU) h1_X9_sumsOf_42) = true := by decide +kernel
noncomputable def g_X9_sumsOf_42 {d : Nat} : List zV → zH d → zP d → Bool := zsmyM [(0, 0), (0, 1), (1, 21), (1, 20), (1, 22), (1, 33), (1, 3), (1, 31), (1, 32), (1, 26), (1, 27)] [zR 1, zR 2] h0_X9_sumsOf_42 (zU) h1_X9_sumsOf_42
theorem mg_X9_sumsOf_42 {d : Nat} : zMet (d := d) X_X9_sumsOf yX9_sumsOf 17 g_X9_sumsOf_42 := zMet_smM m_X9_sumsOfa ev_X9_sumsOf_42
noncomputable def h0_X9_sumsOf_43 : zH 4 := (show zT 4 from ((zk_99_zs1_99_f00_X9_sumsOf_27, (((0, 456, bg_46), zk_99_zs1_99_f00_X9_sumsOf_32), ((0, 66, bg_4), zk_99_zs1_99_f00_X9_sumsOf_0))), zk_99_zs1_99_f00_X9_sumsOf_28), (11, (0, 0)))
noncomputable def h1_X9_sumsOf_43 : zH 4 := (show zT 4 from ((zk_99_zs1_99_f00_X9_sumsOf_27, (((0, 456, bg_46), zk_99_zs1_99_f00_X9_sumsOf_32), ((0, 66, bg_4), zk_99_zs1_99_f00_X9_sumsOf_0))), zk_99_zs1_99_f00_X9_sumsOf_28), (11, (0, 0)))
theorem ev_X9_sumsOf_43 : f_X9_sumsOfa [zR 1, zR 2] h0_X9_sumsOf_43 (zrk (zU) h1_X9_sumsOf_43) = true := by decide +kernel
noncomputable def g_X9_sumsOf_43 {d : Nat} : List zV → zH d → zP d → Bool := zsmyM [(0, 0), (0, 1), (1, 21), (1, 20), (1, 22), (1, 33), (1, 3), (1, 31), (1, 32), (1, 26), (1, 27)] [zR 1, zR 2] h0_X9_sumsOf_43 (zU) h1_X9_sumsOf_43
theorem mg_X9_sumsOf_43 {d : Nat} : zMet (d := d) X_X9_sumsOf yX9_sumsOf 17 g_X9_sumsOf_43 := zMet_smM m_X9_sumsOfa ev_X9_sumsOf_43
noncomputable def zk_99_zs1_99_f00_X9_sumsOf_33 : zT 2 := @Prod.mk (zT 1) (zT 1) ((25, 63, bg_153), (0, 12000, zun 40 12000 4294967296)) ((0, 11, bg_8), (0, 11, bg_131))
noncomputable def zk_99_zs1_99_f00_X9_sumsOf_34 : zC := (0, 7, 0x100000000000000000500000000040000000003000000000200000000010100000000)
noncomputable def zk_99_zs1_99_f00_X9_sumsOf_35 : zT 3 := @Prod.mk (zT 2) (zT 2) ((zk_99_zs1_99_f00_X9_sumsOf_1, (10, 46656, 5)), ((11, 720, 5), (0, 0, 0))) zO2
noncomputable def h0_X9_sumsOf_44 : zH 4 := (show zT 4 from ((zk_99_zs1_99_f00_X9_sumsOf_33, (((0, 456, bg_49), zk_99_zs1_99_f00_X9_sumsOf_34), ((0, 66, bg_5), zk_99_zs1_99_f00_X9_sumsOf_0))), zk_99_zs1_99_f00_X9_sumsOf_35), (11, (0, 0)))
noncomputable def h1_X9_sumsOf_44 : zH 4 := (show zT 4 from ((zk_99_zs1_99_f00_X9_sumsOf_33, (((0, 456, bg_49), zk_99_zs1_99_f00_X9_sumsOf_34), ((0, 66, bg_5), zk_99_zs1_99_f00_X9_sumsOf_0))), zk_99_zs1_99_f00_X9_sumsOf_35), (11, (0, 0)))
theorem ev_X9_sumsOf_44 : f_X9_sumsOfa [zR 1, zR 2] h0_X9_sumsOf_44 (zrk (zU) h1_X9_sumsOf_44) = true := by decide +kernel
noncomputable def g_X9_sumsOf_44 {d : Nat} : List zV → zH d → zP d → Bool := zsmyM [(0, 0), (0, 1), (1, 21), (1, 20), (1, 22), (1, 33), (1, 3), (1, 31), (1, 32), (1, 26), (1, 27)] [zR 1, zR 2] h0_X9_sumsOf_44 (zU) h1_X9_sumsOf_44
theorem mg_X9_sumsOf_44 {d : Nat} : zMet (d := d) X_X9_sumsOf yX9_sumsOf 17 g_X9_sumsOf_44 := zMet_smM m_X9_sumsOfa ev_X9_sumsOf_44
noncomputable def zk_99_zs1_99_f00_X9_sumsOf_36 : zC := (0, 7, 0x100000000000000000100000000050000000004000000000300000000020100000000)
noncomputable def h0_X9_sumsOf_45 : zH 4 := (show zT 4 from ((zk_99_zs1_99_f00_X9_sumsOf_33, (((0, 456, bg_49), zk_99_zs1_99_f00_X9_sumsOf_36), ((0, 66, bg_5), zk_99_zs1_99_f00_X9_sumsOf_0))), zk_99_zs1_99_f00_X9_sumsOf_35), (11, (0, 0)))
noncomputable def h1_X9_sumsOf_45 : zH 4 := (show zT 4 from ((zk_99_zs1_99_f00_X9_sumsOf_33, (((0, 456, bg_49), zk_99_zs1_99_f00_X9_sumsOf_36), ((0, 66, bg_5), zk_99_zs1_99_f00_X9_sumsOf_0))), zk_99_zs1_99_f00_X9_sumsOf_35), (11, (0, 0)))
theorem ev_X9_sumsOf_45 : f_X9_sumsOfa [zR 1, zR 2] h0_X9_sumsOf_45 (zrk (zU) h1_X9_sumsOf_45) = true := by decide +kernel
noncomputable def g_X9_sumsOf_45 {d : Nat} : List zV → zH d → zP d → Bool := zsmyM [(0, 0), (0, 1), (1, 21), (1, 20), (1, 22), (1, 33), (1, 3), (1, 31), (1, 32), (1, 26), (1, 27)] [zR 1, zR 2] h0_X9_sumsOf_45 (zU) h1_X9_sumsOf_45
theorem mg_X9_sumsOf_45 {d : Nat} : zMet (d := d) X_X9_sumsOf yX9_sumsOf 17 g_X9_sumsOf_45 := zMet_smM m_X9_sumsOfa ev_X9_sumsOf_45
noncomputable def zk_99_zs1_99_f00_X9_sumsOf_37 : zC := (0, 7, 0x100000000000000000500000000040000000001000000000300000000020100000000)
noncomputable def h0_X9_sumsOf_46 : zH 4 := (show zT 4 from ((zk_99_zs1_99_f00_X9_sumsOf_33, (((0, 456, bg_49), zk_99_zs1_99_f00_X9_sumsOf_37), ((0, 66, bg_5), zk_99_zs1_99_f00_X9_sumsOf_0))), zk_99_zs1_99_f00_X9_sumsOf_35), (11, (0, 0)))
noncomputable def h1_X9_sumsOf_46 : zH 4 := (show zT 4 from ((zk_99_zs1_99_f00_X9_sumsOf_33, (((0, 456, bg_49), zk_99_zs1_99_f00_X9_sumsOf_37), ((0, 66, bg_5), zk_99_zs1_99_f00_X9_sumsOf_0))), zk_99_zs1_99_f00_X9_sumsOf_35), (11, (0, 0)))
theorem ev_X9_sumsOf_46 : f_X9_sumsOfa [zR 1, zR 2] h0_X9_sumsOf_46 (zrk (zU) h1_X9_sumsOf_46) = true := by decide +kernel
noncomputable def g_X9_sumsOf_46 {d : Nat} : List zV → zH d → zP d → Bool := zsmyM [(0, 0), (0, 1), (1, 21), (1, 20), (1, 22), (1, 33), (1, 3), (1, 31), (1, 32), (1, 26), (1, 27)] [zR 1, zR 2] h0_X9_sumsOf_46 (zU) h1_X9_sumsOf_46
theorem mg_X9_sumsOf_46 {d : Nat} : zMet (d := d) X_X9_sumsOf yX9_sumsOf 17 g_X9_sumsOf_46 := zMet_smM m_X9_sumsOfa ev_X9_sumsOf_46
noncomputable def zk_99_zs1_99_f00_X9_sumsOf_38 : zT 2 := @Prod.mk (zT 1) (zT 1) ((25, 63, bg_154), (0, 12000, zun 40 12000 4294967296)) ((0, 11, bg_155), (0, 11, bg_135))
noncomputable def zk_99_zs1_99_f00_X9_sumsOf_39 : zT 3 := @Prod.mk (zT 2) (zT 2) ((zk_99_zs1_99_f00_X9_sumsOf_1, (10, 46656, 12)), ((11, 720, 12), (0, 0, 0))) zO2
noncomputable def h0_X9_sumsOf_47 : zH 4 := (show zT 4 from ((zk_99_zs1_99_f00_X9_sumsOf_38, (((0, 456, bg_52), zk_99_zs1_99_f00_X9_sumsOf_34), ((0, 66, bg_5), zk_99_zs1_99_f00_X9_sumsOf_0))), zk_99_zs1_99_f00_X9_sumsOf_39), (11, (0, 0)))
noncomputable def h1_X9_sumsOf_47 : zH 4 := (show zT 4 from ((zk_99_zs1_99_f00_X9_sumsOf_38, (((0, 456, bg_52), zk_99_zs1_99_f00_X9_sumsOf_34), ((0, 66, bg_5), zk_99_zs1_99_f00_X9_sumsOf_0))), zk_99_zs1_99_f00_X9_sumsOf_39), (11, (0, 0)))
theorem ev_X9_sumsOf_47 : f_X9_sumsOfa [zR 1, zR 2] h0_X9_sumsOf_47 (zrk (zU) h1_X9_sumsOf_47) = true := by decide +kernel
noncomputable def g_X9_sumsOf_47 {d : Nat} : List zV → zH d → zP d → Bool := zsmyM [(0, 0), (0, 1), (1, 21), (1, 20), (1, 22), (1, 33), (1, 3), (1, 31), (1, 32), (1, 26), (1, 27)] [zR 1, zR 2] h0_X9_sumsOf_47 (zU) h1_X9_sumsOf_47
theorem mg_X9_sumsOf_47 {d : Nat} : zMet (d := d) X_X9_sumsOf yX9_sumsOf 17 g_X9_sumsOf_47 := zMet_smM m_X9_sumsOfa ev_X9_sumsOf_47
noncomputable def h0_X9_sumsOf_48 : zH 4 := (show zT 4 from ((zk_99_zs1_99_f00_X9_sumsOf_38, (((0, 456, bg_52), zk_99_zs1_99_f00_X9_sumsOf_36), ((0, 66, bg_5), zk_99_zs1_99_f00_X9_sumsOf_0))), zk_99_zs1_99_f00_X9_sumsOf_39), (11, (0, 0)))
noncomputable def h1_X9_sumsOf_48 : zH 4 := (show zT 4 from ((zk_99_zs1_99_f00_X9_sumsOf_38, (((0, 456, bg_52), zk_99_zs1_99_f00_X9_sumsOf_36), ((0, 66, bg_5), zk_99_zs1_99_f00_X9_sumsOf_0))), zk_99_zs1_99_f00_X9_sumsOf_39), (11, (0, 0)))
theorem ev_X9_sumsOf_48 : f_X9_sumsOfa [zR 1, zR 2] h0_X9_sumsOf_48 (zrk (zU) h1_X9_sumsOf_48) = true := by decide +kernel
noncomputable def g_X9_sumsOf_48 {d : Nat} : List zV → zH d → zP d → Bool := zsmyM [(0, 0), (0, 1), (1, 21), (1, 20), (1, 22), (1, 33), (1, 3), (1, 31), (1, 32), (1, 26), (1, 27)] [zR 1, zR 2] h0_X9_sumsOf_48 (zU) h1_X9_sumsOf_48
theorem mg_X9_sumsOf_48 {d : Nat} : zMet (d := d) X_X9_sumsOf yX9_sumsOf 17 g_X9_sumsOf_48 := zMet_smM m_X9_sumsOfa ev_X9_sumsOf_48
noncomputable def h0_X9_sumsOf_49 : zH 4 := (show zT 4 from ((zk_99_zs1_99_f00_X9_sumsOf_38, (((0, 456, bg_52), zk_99_zs1_99_f00_X9_sumsOf_37), ((0, 66, bg_5), zk_99_zs1_99_f00_X9_sumsOf_0))), zk_99_zs1_99_f00_X9_sumsOf_39), (11, (0, 0)))
noncomputable def h1_X9_sumsOf_49 : zH 4 := (show zT 4 from ((zk_99_zs1_99_f00_X9_sumsOf_38, (((0, 456, bg_52), zk_99_zs1_99_f00_X9_sumsOf_37), ((0, 66, bg_5), zk_99_zs1_99_f00_X9_sumsOf_0))), zk_99_zs1_99_f00_X9_sumsOf_39), (11, (0, 0)))
theorem ev_X9_sumsOf_49 : f_X9_sumsOfa [zR 1, zR 2] h0_X9_sumsOf_49 (zrk (zU) h1_X9_sumsOf_49) = true := by decide +kernel
noncomputable def g_X9_sumsOf_49 {d : Nat} : List zV → zH d → zP d → Bool := zsmyM [(0, 0), (0, 1), (1, 21), (1, 20), (1, 22), (1, 33), (1, 3), (1, 31), (1, 32), (1, 26), (1, 27)] [zR 1, zR 2] h0_X9_sumsOf_49 (zU) h1_X9_sumsOf_49
theorem mg_X9_sumsOf_49 {d : Nat} : zMet (d := d) X_X9_sumsOf yX9_sumsOf 17 g_X9_sumsOf_49 := zMet_smM m_X9_sumsOfa ev_X9_sumsOf_49
noncomputable def zk_99_zs1_99_f00_X9_sumsOf_40 : zT 2 := @Prod.mk (zT 1) (zT 1) ((25, 63, bg_156), (0, 12000, zun 40 12000 4294967296)) ((0, 11, bg_157), (0, 11, bg_158))
noncomputable def zk_99_zs1_99_f00_X9_sumsOf_41 : zT 3 := @Prod.mk (zT 2) (zT 2) ((zk_99_zs1_99_f00_X9_sumsOf_1, (10, 46656, 19)), ((11, 720, 19), (0, 0, 0))) zO2
noncomputable def h0_X9_sumsOf_50 : zH 4 := (show zT 4 from ((zk_99_zs1_99_f00_X9_sumsOf_40, (((0, 456, bg_55), zk_99_zs1_99_f00_X9_sumsOf_34), ((0, 66, bg_5), zk_99_zs1_99_f00_X9_sumsOf_0))), zk_99_zs1_99_f00_X9_sumsOf_41), (11, (0, 0)))
noncomputable def h1_X9_sumsOf_50 : zH 4 := (show zT 4 from ((zk_99_zs1_99_f00_X9_sumsOf_40, (((0, 456, bg_55), zk_99_zs1_99_f00_X9_sumsOf_34), ((0, 66, bg_5), zk_99_zs1_99_f00_X9_sumsOf_0))), zk_99_zs1_99_f00_X9_sumsOf_41), (11, (0, 0)))
theorem ev_X9_sumsOf_50 : f_X9_sumsOfa [zR 1, zR 2] h0_X9_sumsOf_50 (zrk (zU) h1_X9_sumsOf_50) = true := by decide +kernel
noncomputable def g_X9_sumsOf_50 {d : Nat} : List zV → zH d → zP d → Bool := zsmyM [(0, 0), (0, 1), (1, 21), (1, 20), (1, 22), (1, 33), (1, 3), (1, 31), (1, 32), (1, 26), (1, 27)] [zR 1, zR 2] h0_X9_sumsOf_50 (zU) h1_X9_sumsOf_50
theorem mg_X9_sumsOf_50 {d : Nat} : zMet (d := d) X_X9_sumsOf yX9_sumsOf 17 g_X9_sumsOf_50 := zMet_smM m_X9_sumsOfa ev_X9_sumsOf_50
noncomputable def h0_X9_sumsOf_51 : zH 4 := (show zT 4 from ((zk_99_zs1_99_f00_X9_sumsOf_40, (((0, 456, bg_55), zk_99_zs1_99_f00_X9_sumsOf_36), ((0, 66, bg_5), zk_99_zs1_99_f00_X9_sumsOf_0))), zk_99_zs1_99_f00_X9_sumsOf_41), (11, (0, 0)))
noncomputable def h1_X9_sumsOf_51 : zH 4 := (show zT 4 from ((zk_99_zs1_99_f00_X9_sumsOf_40, (((0, 456, bg_55), zk_99_zs1_99_f00_X9_sumsOf_36), ((0, 66, bg_5), zk_99_zs1_99_f00_X9_sumsOf_0))), zk_99_zs1_99_f00_X9_sumsOf_41), (11, (0, 0)))
theorem ev_X9_sumsOf_51 : f_X9_sumsOfa [zR 1, zR 2] h0_X9_sumsOf_51 (zrk (zU) h1_X9_sumsOf_51) = true := by decide +kernel
noncomputable def g_X9_sumsOf_51 {d : Nat} : List zV → zH d → zP d → Bool := zsmyM [(0, 0), (0, 1), (1, 21), (1, 20), (1, 22), (1, 33), (1, 3), (1, 31), (1, 32), (1, 26), (1, 27)] [zR 1, zR 2] h0_X9_sumsOf_51 (zU) h1_X9_sumsOf_51
theorem mg_X9_sumsOf_51 {d : Nat} : zMet (d := d) X_X9_sumsOf yX9_sumsOf 17 g_X9_sumsOf_51 := zMet_smM m_X9_sumsOfa ev_X9_sumsOf_51
noncomputable def h0_X9_sumsOf_52 : zH 4 := (show zT 4 from ((zk_99_zs1_99_f00_X9_sumsOf_40, (((0, 456, bg_55), zk_99_zs1_99_f00_X9_sumsOf_37), ((0, 66, bg_5), zk_99_zs1_99_f00_X9_sumsOf_0))), zk_99_zs1_99_f00_X9_sumsOf_41), (11, (0, 0)))
noncomputable def h1_X9_sumsOf_52 : zH 4 := (show zT 4 from ((zk_99_zs1_99_f00_X9_sumsOf_40, (((0, 456, bg_55), zk_99_zs1_99_f00_X9_sumsOf_37), ((0, 66, bg_5), zk_99_zs1_99_f00_X9_sumsOf_0))), zk_99_zs1_99_f00_X9_sumsOf_41), (11, (0, 0)))
theorem ev_X9_sumsOf_52 : f_X9_sumsOfa [zR 1, zR 2] h0_X9_sumsOf_52 (zrk (zU) h1_X9_sumsOf_52) = true := by decide +kernel
noncomputable def g_X9_sumsOf_52 {d : Nat} : List zV → zH d → zP d → Bool := zsmyM [(0, 0), (0, 1), (1, 21), (1, 20), (1, 22), (1, 33), (1, 3), (1, 31), (1, 32), (1, 26), (1, 27)] [zR 1, zR 2] h0_X9_sumsOf_52 (zU) h1_X9_sumsOf_52
theorem mg_X9_sumsOf_52 {d : Nat} : zMet (d := d) X_X9_sumsOf yX9_sumsOf 17 g_X9_sumsOf_52 := zMet_smM m_X9_sumsOfa ev_X9_sumsOf_52
noncomputable def zk_99_zs1_99_f00_X9_sumsOf_42 : zT 2 := @Prod.mk (zT 1) (zT 1) ((25, 63, bg_159), (0, 12000, zun 40 12000 4294967296)) ((0, 11, bg_160), (0, 11, bg_161))
noncomputable def zk_99_zs1_99_f00_X9_sumsOf_43 : zT 3 := @Prod.mk (zT 2) (zT 2) ((zk_99_zs1_99_f00_X9_sumsOf_1, (10, 46656, 75)), ((11, 720, 75), (0, 0, 0))) zO2
noncomputable def h0_X9_sumsOf_53 : zH 4 := (show zT 4 from ((zk_99_zs1_99_f00_X9_sumsOf_42, (((0, 456, bg_58), zk_99_zs1_99_f00_X9_sumsOf_34), ((0, 66, bg_5), zk_99_zs1_99_f00_X9_sumsOf_0))), zk_99_zs1_99_f00_X9_sumsOf_43), (11, (0, 0)))
noncomputable def h1_X9_sumsOf_53 : zH 4 := (show zT 4 from ((zk_99_zs1_99_f00_X9_sumsOf_42, (((0, 456, bg_58), zk_99_zs1_99_f00_X9_sumsOf_34), ((0, 66, bg_5), zk_99_zs1_99_f00_X9_sumsOf_0))), zk_99_zs1_99_f00_X9_sumsOf_43), (11, (0, 0)))
theorem ev_X9_sumsOf_53 : f_X9_sumsOfa [zR 1, zR 2] h0_X9_sumsOf_53 (zrk (zU) h1_X9_sumsOf_53) = true := by decide +kernel
noncomputable def g_X9_sumsOf_53 {d : Nat} : List zV → zH d → zP d → Bool := zsmyM [(0, 0), (0, 1), (1, 21), (1, 20), (1, 22), (1, 33), (1, 3), (1, 31), (1, 32), (1, 26), (1, 27)] [zR 1, zR 2] h0_X9_sumsOf_53 (zU) h1_X9_sumsOf_53
theorem mg_X9_sumsOf_53 {d : Nat} : zMet (d := d) X_X9_sumsOf yX9_sumsOf 17 g_X9_sumsOf_53 := zMet_smM m_X9_sumsOfa ev_X9_sumsOf_53
noncomputable def zk_99_zs1_99_f00_X9_sumsOf_44 : zT 2 := @Prod.mk (zT 1) (zT 1) ((25, 63, bg_162), (0, 12000, zun 40 12000 4294967296)) ((0, 11, bg_163), (0, 11, bg_164))
noncomputable def zk_99_zs1_99_f00_X9_sumsOf_45 : zT 3 := @Prod.mk (zT 2) (zT 2) ((zk_99_zs1_99_f00_X9_sumsOf_1, (10, 46656, 82)), ((11, 720, 82), (0, 0, 0))) zO2
noncomputable def h0_X9_sumsOf_54 : zH 4 := (show zT 4 from ((zk_99_zs1_99_f00_X9_sumsOf_44, (((0, 456, bg_61), zk_99_zs1_99_f00_X9_sumsOf_34), ((0, 66, bg_5), zk_99_zs1_99_f00_X9_sumsOf_0))), zk_99_zs1_99_f00_X9_sumsOf_45), (11, (0, 0)))
noncomputable def h1_X9_sumsOf_54 : zH 4 := (show zT 4 from ((zk_99_zs1_99_f00_X9_sumsOf_44, (((0, 456, bg_61), zk_99_zs1_99_f00_X9_sumsOf_34), ((0, 66, bg_5), zk_99_zs1_99_f00_X9_sumsOf_0))), zk_99_zs1_99_f00_X9_sumsOf_45), (11, (0, 0)))
theorem ev_X9_sumsOf_54 : f_X9_sumsOfa [zR 1, zR 2] h0_X9_sumsOf_54 (zrk (zU) h1_X9_sumsOf_54) = true := by decide +kernel
noncomputable def g_X9_sumsOf_54 {d : Nat} : List zV → zH d → zP d → Bool := zsmyM [(0, 0), (0, 1), (1, 21), (1, 20), (1, 22), (1, 33), (1, 3), (1, 31), (1, 32), (1, 26), (1, 27)] [zR 1, zR 2] h0_X9_sumsOf_54 (zU) h1_X9_sumsOf_54
theorem mg_X9_sumsOf_54 {d : Nat} : zMet (d := d) X_X9_sumsOf yX9_sumsOf 17 g_X9_sumsOf_54 := zMet_smM m_X9_sumsOfa ev_X9_sumsOf_54
noncomputable def zk_99_zs1_99_f00_X9_sumsOf_46 : zT 2 := @Prod.mk (zT 1) (zT 1) ((25, 63, bg_165), (0, 12000, zun 40 12000 4294967296)) ((0, 11, bg_166), (0, 11, bg_167))
noncomputable def zk_99_zs1_99_f00_X9_sumsOf_47 : zT 3 := @Prod.mk (zT 2) (zT 2) ((zk_99_zs1_99_f00_X9_sumsOf_1, (10, 46656, 586)), ((11, 720, 586), (0, 0, 0))) zO2
noncomputable def h0_X9_sumsOf_55 : zH 4 := (show zT 4 from ((zk_99_zs1_99_f00_X9_sumsOf_46, (((0, 456, bg_64), zk_99_zs1_99_f00_X9_sumsOf_34), ((0, 66, bg_5), zk_99_zs1_99_f00_X9_sumsOf_0))), zk_99_zs1_99_f00_X9_sumsOf_47), (11, (0, 0)))
noncomputable def h1_X9_sumsOf_55 : zH 4 := (show zT 4 from ((zk_99_zs1_99_f00_X9_sumsOf_46, (((0, 456, bg_64), zk_99_zs1_99_f00_X9_sumsOf_34), ((0, 66, bg_5), zk_99_zs1_99_f00_X9_sumsOf_0))), zk_99_zs1_99_f00_X9_sumsOf_47), (11, (0, 0)))
theorem ev_X9_sumsOf_55 : f_X9_sumsOfa [zR 1, zR 2] h0_X9_sumsOf_55 (zrk (zU) h1_X9_sumsOf_55) = true := by decide +kernel
noncomputable def g_X9_sumsOf_55 {d : Nat} : List zV → zH d → zP d → Bool := zsmyM [(0, 0), (0, 1), (1, 21), (1, 20), (1, 22), (1, 33), (1, 3), (1, 31), (1, 32), (1, 26), (1, 27)] [zR 1, zR 2] h0_X9_sumsOf_55 (zU) h1_X9_sumsOf_55
theorem mg_X9_sumsOf_55 {d : Nat} : zMet (d := d) X_X9_sumsOf yX9_sumsOf 17 g_X9_sumsOf_55 := zMet_smM m_X9_sumsOfa ev_X9_sumsOf_55
noncomputable def zk_99_zs1_99_f00_X9_sumsOf_48 : zT 2 := @Prod.mk (zT 1) (zT 1) ((25, 63, bg_168), (0, 12000, zun 40 12000 4294967296)) ((0, 11, bg_169), (0, 11, bg_170))
noncomputable def zk_99_zs1_99_f00_X9_sumsOf_49 : zT 3 := @Prod.mk (zT 2) (zT 2) ((zk_99_zs1_99_f00_X9_sumsOf_1, (10, 46656, 4681)), ((11, 720, 4681), (0, 0, 0))) zO2
noncomputable def h0_X9_sumsOf_56 : zH 4 := (show zT 4 from ((zk_99_zs1_99_f00_X9_sumsOf_48, (((0, 456, bg_67), zk_99_zs1_99_f00_X9_sumsOf_34), ((0, 66, bg_5), zk_99_zs1_99_f00_X9_sumsOf_0))), zk_99_zs1_99_f00_X9_sumsOf_49), (11, (0, 0)))
noncomputable def h1_X9_sumsOf_56 : zH 4 := (show zT 4 from ((zk_99_zs1_99_f00_X9_sumsOf_48, (((0, 456, bg_67), zk_99_zs1_99_f00_X9_sumsOf_34), ((0, 66, bg_5), zk_99_zs1_99_f00_X9_sumsOf_0))), zk_99_zs1_99_f00_X9_sumsOf_49), (11, (0, 0)))
theorem ev_X9_sumsOf_56 : f_X9_sumsOfa [zR 1, zR 2] h0_X9_sumsOf_56 (zrk (zU) h1_X9_sumsOf_56) = true := by decide +kernel
noncomputable def g_X9_sumsOf_56 {d : Nat} : List zV → zH d → zP d → Bool := zsmyM [(0, 0), (0, 1), (1, 21), (1, 20), (1, 22), (1, 33), (1, 3), (1, 31), (1, 32), (1, 26), (1, 27)] [zR 1, zR 2] h0_X9_sumsOf_56 (zU) h1_X9_sumsOf_56
theorem mg_X9_sumsOf_56 {d : Nat} : zMet (d := d) X_X9_sumsOf yX9_sumsOf 17 g_X9_sumsOf_56 := zMet_smM m_X9_sumsOfa ev_X9_sumsOf_56
noncomputable def zk_99_zs1_99_f00_X9_sumsOf_50 : zC := (0, 7, 0x100000000000000000500000000010000000004000000000300000000020100000000)
noncomputable def h0_X9_sumsOf_57 : zH 4 := (show zT 4 from ((zk_99_zs1_99_f00_X9_sumsOf_33, (((0, 456, bg_49), zk_99_zs1_99_f00_X9_sumsOf_50), ((0, 66, bg_5), zk_99_zs1_99_f00_X9_sumsOf_0))), zk_99_zs1_99_f00_X9_sumsOf_35), (11, (0, 0)))
noncomputable def h1_X9_sumsOf_57 : zH 4 := (show zT 4 from ((zk_99_zs1_99_f00_X9_sumsOf_33, (((0, 456, bg_49), zk_99_zs1_99_f00_X9_sumsOf_50), ((0, 66, bg_5), zk_99_zs1_99_f00_X9_sumsOf_0))), zk_99_zs1_99_f00_X9_sumsOf_35), (11, (0, 0)))
theorem ev_X9_sumsOf_57 : f_X9_sumsOfa [zR 1, zR 2] h0_X9_sumsOf_57 (zrk (zU) h1_X9_sumsOf_57) = true := by decide +kernel
noncomputable def g_X9_sumsOf_57 {d : Nat} : List zV → zH d → zP d → Bool := zsmyM [(0, 0), (0, 1), (1, 21), (1, 20), (1, 22), (1, 33), (1, 3), (1, 31), (1, 32), (1, 26), (1, 27)] [zR 1, zR 2] h0_X9_sumsOf_57 (zU) h1_X9_sumsOf_57
theorem mg_X9_sumsOf_57 {d : Nat} : zMet (d := d) X_X9_sumsOf yX9_sumsOf 17 g_X9_sumsOf_57 := zMet_smM m_X9_sumsOfa ev_X9_sumsOf_57
noncomputable def zk_99_zs1_99_f00_X9_sumsOf_51 : zC := (0, 7, 0x100000000000000000500000000020000000001000000000400000000030100000000)
noncomputable def h0_X9_sumsOf_58 : zH 4 := (show zT 4 from ((zk_99_zs1_99_f00_X9_sumsOf_33, (((0, 456, bg_49), zk_99_zs1_99_f00_X9_sumsOf_51), ((0, 66, bg_5), zk_99_zs1_99_f00_X9_sumsOf_0))), zk_99_zs1_99_f00_X9_sumsOf_35), (11, (0, 0)))
noncomputable def h1_X9_sumsOf_58 : zH 4 := (show zT 4 from ((zk_99_zs1_99_f00_X9_sumsOf_33, (((0, 456, bg_49), zk_99_zs1_99_f00_X9_sumsOf_51), ((0, 66, bg_5), zk_99_zs1_99_f00_X9_sumsOf_0))), zk_99_zs1_99_f00_X9_sumsOf_35), (11, (0, 0)))
theorem ev_X9_sumsOf_58 : f_X9_sumsOfa [zR 1, zR 2] h0_X9_sumsOf_58 (zrk (zU) h1_X9_sumsOf_58) = true := by decide +kernel
noncomputable def g_X9_sumsOf_58 {d : Nat} : List zV → zH d → zP d → Bool := zsmyM [(0, 0), (0, 1), (1, 21), (1, 20), (1, 22), (1, 33), (1, 3), (1, 31), (1, 32), (1, 26), (1, 27)] [zR 1, zR 2] h0_X9_sumsOf_58 (zU) h1_X9_sumsOf_58
theorem mg_X9_sumsOf_58 {d : Nat} : zMet (d := d) X_X9_sumsOf yX9_sumsOf 17 g_X9_sumsOf_58 := zMet_smM m_X9_sumsOfa ev_X9_sumsOf_58
noncomputable def zk_99_zs1_99_f00_X9_sumsOf_52 : zC := (0, 7, 0x100000000000000000500000000030000000004000000000100000000020100000000)
noncomputable def h0_X9_sumsOf_59 : zH 4 := (show zT 4 from ((zk_99_zs1_99_f00_X9_sumsOf_33, (((0, 456, bg_49), zk_99_zs1_99_f00_X9_sumsOf_52), ((0, 66, bg_5), zk_99_zs1_99_f00_X9_sumsOf_0))), zk_99_zs1_99_f00_X9_sumsOf_35), (11, (0, 0)))
noncomputable def h1_X9_sumsOf_59 : zH 4 := (show zT 4 from ((zk_99_zs1_99_f00_X9_sumsOf_33, (((0, 456, bg_49), zk_99_zs1_99_f00_X9_sumsOf_52), ((0, 66, bg_5), zk_99_zs1_99_f00_X9_sumsOf_0))), zk_99_zs1_99_f00_X9_sumsOf_35), (11, (0, 0)))
theorem ev_X9_sumsOf_59 : f_X9_sumsOfa [zR 1, zR 2] h0_X9_sumsOf_59 (zrk (zU) h1_X9_sumsOf_59) = true := by decide +kernel
noncomputable def g_X9_sumsOf_59 {d : Nat} : List zV → zH d → zP d → Bool := zsmyM [(0, 0), (0, 1), (1, 21), (1, 20), (1, 22), (1, 33), (1, 3), (1, 31), (1, 32), (1, 26), (1, 27)] [zR 1, zR 2] h0_X9_sumsOf_59 (zU) h1_X9_sumsOf_59
theorem mg_X9_sumsOf_59 {d : Nat} : zMet (d := d) X_X9_sumsOf yX9_sumsOf 17 g_X9_sumsOf_59 := zMet_smM m_X9_sumsOfa ev_X9_sumsOf_59
noncomputable def zk_99_zs1_99_f00_X9_sumsOf_53 : zC := (0, 7, 0x100000000000000000500000000040000000003000000000100000000020100000000)
noncomputable def h0_X9_sumsOf_60 : zH 4 := (show zT 4 from ((zk_99_zs1_99_f00_X9_sumsOf_33, (((0, 456, bg_49), zk_99_zs1_99_f00_X9_sumsOf_53), ((0, 66, bg_5), zk_99_zs1_99_f00_X9_sumsOf_0))), zk_99_zs1_99_f00_X9_sumsOf_35), (11, (0, 0)))
noncomputable def h1_X9_sumsOf_60 : zH 4 := (show zT 4 from ((zk_99_zs1_99_f00_X9_sumsOf_33, (((0, 456, bg_49), zk_99_zs1_99_f00_X9_sumsOf_53), ((0, 66, bg_5), zk_99_zs1_99_f00_X9_sumsOf_0))), zk_99_zs1_99_f00_X9_sumsOf_35), (11, (0, 0)))
theorem ev_X9_sumsOf_60 : f_X9_sumsOfa [zR 1, zR 2] h0_X9_sumsOf_60 (zrk (zU) h1_X9_sumsOf_60) = true := by decide +kernel
noncomputable def g_X9_sumsOf_60 {d : Nat} : List zV → zH d → zP d → Bool := zsmyM [(0, 0), (0, 1), (1, 21), (1, 20), (1, 22), (1, 33), (1, 3), (1, 31), (1, 32), (1, 26), (1, 27)] [zR 1, zR 2] h0_X9_sumsOf_60 (zU) h1_X9_sumsOf_60
theorem mg_X9_sumsOf_60 {d : Nat} : zMet (d := d) X_X9_sumsOf yX9_sumsOf 17 g_X9_sumsOf_60 := zMet_smM m_X9_sumsOfa ev_X9_sumsOf_60
noncomputable def h0_X9_sumsOf_61 : zH 4 := (show zT 4 from ((zk_99_zs1_99_f00_X9_sumsOf_38, (((0, 456, bg_52), zk_99_zs1_99_f00_X9_sumsOf_50), ((0, 66, bg_5), zk_99_zs1_99_f00_X9_sumsOf_0))), zk_99_zs1_99_f00_X9_sumsOf_39), (11, (0, 0)))
noncomputable def h1_X9_sumsOf_61 : zH 4 := (show zT 4 from ((zk_99_zs1_99_f00_X9_sumsOf_38, (((0, 456, bg_52), zk_99_zs1_99_f00_X9_sumsOf_50), ((0, 66, bg_5), zk_99_zs1_99_f00_X9_sumsOf_0))), zk_99_zs1_99_f00_X9_sumsOf_39), (11, (0, 0)))
theorem ev_X9_sumsOf_61 : f_X9_sumsOfa [zR 1, zR 2] h0_X9_sumsOf_61 (zrk (zU) h1_X9_sumsOf_61) = true := by decide +kernel
noncomputable def g_X9_sumsOf_61 {d : Nat} : List zV → zH d → zP d → Bool := zsmyM [(0, 0), (0, 1), (1, 21), (1, 20), (1, 22), (1, 33), (1, 3), (1, 31), (1, 32), (1, 26), (1, 27)] [zR 1, zR 2] h0_X9_sumsOf_61 (zU) h1_X9_sumsOf_61
theorem mg_X9_sumsOf_61 {d : Nat} : zMet (d := d) X_X9_sumsOf yX9_sumsOf 17 g_X9_sumsOf_61 := zMet_smM m_X9_sumsOfa ev_X9_sumsOf_61
noncomputable def h0_X9_sumsOf_62 : zH 4 := (show zT 4 from ((zk_99_zs1_99_f00_X9_sumsOf_38, (((0, 456, bg_52), zk_99_zs1_99_f00_X9_sumsOf_51), ((0, 66, bg_5), zk_99_zs1_99_f00_X9_sumsOf_0))), zk_99_zs1_99_f00_X9_sumsOf_39), (11, (0, 0)))
noncomputable def h1_X9_sumsOf_62 : zH 4 := (show zT 4 from ((zk_99_zs1_99_f00_X9_sumsOf_38, (((0, 456, bg_52), zk_99_zs1_99_f00_X9_sumsOf_51), ((0, 66, bg_5), zk_99_zs1_99_f00_X9_sumsOf_0))), zk_99_zs1_99_f00_X9_sumsOf_39), (11, (0, 0)))
theorem ev_X9_sumsOf_62 : f_X9_sumsOfa [zR 1, zR 2] h0_X9_sumsOf_62 (zrk (zU) h1_X9_sumsOf_62) = true := by decide +kernel
noncomputable def g_X9_sumsOf_62 {d : Nat} : List zV → zH d → zP d → Bool := zsmyM [(0, 0), (0, 1), (1, 21), (1, 20), (1, 22), (1, 33), (1, 3), (1, 31), (1, 32), (1, 26), (1, 27)] [zR 1, zR 2] h0_X9_sumsOf_62 (zU) h1_X9_sumsOf_62
theorem mg_X9_sumsOf_62 {d : Nat} : zMet (d := d) X_X9_sumsOf yX9_sumsOf 17 g_X9_sumsOf_62 := zMet_smM m_X9_sumsOfa ev_X9_sumsOf_62
noncomputable def h0_X9_sumsOf_63 : zH 4 := (show zT 4 from ((zk_99_zs1_99_f00_X9_sumsOf_38, (((0, 456, bg_52), zk_99_zs1_99_f00_X9_sumsOf_52), ((0, 66, bg_5), zk_99_zs1_99_f00_X9_sumsOf_0))), zk_99_zs1_99_f00_X9_sumsOf_39), (11, (0, 0)))
noncomputable def h1_X9_sumsOf_63 : zH 4 := (show zT 4 from ((zk_99_zs1_99_f00_X9_sumsOf_38, (((0, 456, bg_52), zk_99_zs1_99_f00_X9_sumsOf_52), ((0, 66, bg_5), zk_99_zs1_99_f00_X9_sumsOf_0))), zk_99_zs1_99_f00_X9_sumsOf_39), (11, (0, 0)))
theorem ev_X9_sumsOf_63 : f_X9_sumsOfa [zR 1, zR 2] h0_X9_sumsOf_63 (zrk (zU) h1_X9_sumsOf_63) = true := by decide +kernel
noncomputable def g_X9_sumsOf_63 {d : Nat} : List zV → zH d → zP d → Bool := zsmyM [(0, 0), (0, 1), (1, 21), (1, 20), (1, 22), (1, 33), (1, 3), (1, 31), (1, 32), (1, 26), (1, 27)] [zR 1, zR 2] h0_X9_sumsOf_63 (zU) h1_X9_sumsOf_63
theorem mg_X9_sumsOf_63 {d : Nat} : zMet (d := d) X_X9_sumsOf yX9_sumsOf 17 g_X9_sumsOf_63 := zMet_smM m_X9_sumsOfa ev_X9_sumsOf_63
noncomputable def h0_X9_sumsOf_64 : zH 4 := (show zT 4 from ((zk_99_zs1_99_f00_X9_sumsOf_38, (((0, 456, bg_52), zk_99_zs1_99_f00_X9_sumsOf_53), ((0, 66, bg_5), zk_99_zs1_99_f00_X9_sumsOf_0))), zk_99_zs1_99_f00_X9_sumsOf_39), (11, (0, 0)))
noncomputable def h1_X9_sumsOf_64 : zH 4 := (show zT 4 from ((zk_99_zs1_99_f00_X9_sumsOf_38, (((0, 456, bg_52), zk_99_zs1_99_f00_X9_sumsOf_53), ((0, 66, bg_5), zk_99_zs1_99_f00_X9_sumsOf_0))), zk_99_zs1_99_f00_X9_sumsOf_39), (11, (0, 0)))
theorem ev_X9_sumsOf_64 : f_X9_sumsOfa [zR 1, zR 2] h0_X9_sumsOf_64 (zrk (zU) h1_X9_sumsOf_64) = true := by decide +kernel
noncomputable def g_X9_sumsOf_64 {d : Nat} : List zV → zH d → zP d → Bool := zsmyM [(0, 0), (0, 1), (1, 21), (1, 20), (1, 22), (1, 33), (1, 3), (1, 31), (1, 32), (1, 26), (1, 27)] [zR 1, zR 2] h0_X9_sumsOf_64 (zU) h1_X9_sumsOf_64
theorem mg_X9_sumsOf_64 {d : Nat} : zMet (d := d) X_X9_sumsOf yX9_sumsOf 17 g_X9_sumsOf_64 := zMet_smM m_X9_sumsOfa ev_X9_sumsOf_64
noncomputable def h0_X9_sumsOf_65 : zH 4 := (show zT 4 from ((zk_99_zs1_99_f00_X9_sumsOf_40, (((0, 456, bg_55), zk_99_zs1_99_f00_X9_sumsOf_50), ((0, 66, bg_5), zk_99_zs1_99_f00_X9_sumsOf_0))), zk_99_zs1_99_f00_X9_sumsOf_41), (11, (0, 0)))
noncomputable def h1_X9_sumsOf_65 : zH 4 := (show zT 4 from ((zk_99_zs1_99_f00_X9_sumsOf_40, (((0, 456, bg_55), zk_99_zs1_99_f00_X9_sumsOf_50), ((0, 66, bg_5), zk_99_zs1_99_f00_X9_sumsOf_0))), zk_99_zs1_99_f00_X9_sumsOf_41), (11, (0, 0)))
theorem ev_X9_sumsOf_65 : f_X9_sumsOfa [zR 1, zR 2] h0_X9_sumsOf_65 (zrk (zU) h1_X9_sumsOf_65) = true := by decide +kernel
noncomputable def g_X9_sumsOf_65 {d : Nat} : List zV → zH d → zP d → Bool := zsmyM [(0, 0), (0, 1), (1, 21), (1, 20), (1, 22), (1, 33), (1, 3), (1, 31), (1, 32), (1, 26), (1, 27)] [zR 1, zR 2] h0_X9_sumsOf_65 (zU) h1_X9_sumsOf_65
theorem mg_X9_sumsOf_65 {d : Nat} : zMet (d := d) X_X9_sumsOf yX9_sumsOf 17 g_X9_sumsOf_65 := zMet_smM m_X9_sumsOfa ev_X9_sumsOf_65
noncomputable def h0_X9_sumsOf_66 : zH 4 := (show zT 4 from ((zk_99_zs1_99_f00_X9_sumsOf_40, (((0, 456, bg_55), zk_99_zs1_99_f00_X9_sumsOf_51), ((0, 66, bg_5), zk_99_zs1_99_f00_X9_sumsOf_0))), zk_99_zs1_99_f00_X9_sumsOf_41), (11, (0, 0)))
noncomputable def h1_X9_sumsOf_66 : zH 4 := (show zT 4 from ((zk_99_zs1_99_f00_X9_sumsOf_40, (((0, 456, bg_55), zk_99_zs1_99_f00_X9_sumsOf_51), ((0, 66, bg_5), zk_99_zs1_99_f00_X9_sumsOf_0))), zk_99_zs1_99_f00_X9_sumsOf_41), (11, (0, 0)))
theorem ev_X9_sumsOf_66 : f_X9_sumsOfa [zR 1, zR 2] h0_X9_sumsOf_66 (zrk (zU) h1_X9_sumsOf_66) = true := by decide +kernel
noncomputable def g_X9_sumsOf_66 {d : Nat} : List zV → zH d → zP d → Bool := zsmyM [(0, 0), (0, 1), (1, 21), (1, 20), (1, 22), (1, 33), (1, 3), (1, 31), (1, 32), (1, 26), (1, 27)] [zR 1, zR 2] h0_X9_sumsOf_66 (zU) h1_X9_sumsOf_66
theorem mg_X9_sumsOf_66 {d : Nat} : zMet (d := d) X_X9_sumsOf yX9_sumsOf 17 g_X9_sumsOf_66 := zMet_smM m_X9_sumsOfa ev_X9_sumsOf_66
noncomputable def h0_X9_sumsOf_67 : zH 4 := (show zT 4 from ((zk_99_zs1_99_f00_X9_sumsOf_40, (((0, 456, bg_55), zk_99_zs1_99_f00_X9_sumsOf_52), ((0, 66, bg_5), zk_99_zs1_99_f00_X9_sumsOf_0))), zk_99_zs1_99_f00_X9_sumsOf_41), (11, (0, 0)))
noncomputable def h1_X9_sumsOf_67 : zH 4 := (show zT 4 from ((zk_99_zs1_99_f00_X9_sumsOf_40, (((0, 456, bg_55), zk_99_zs1_99_f00_X9_sumsOf_52), ((0, 66, bg_5), zk_99_zs1_99_f00_X9_sumsOf_0))), zk_99_zs1_99_f00_X9_sumsOf_41), (11, (0, 0)))
theorem ev_X9_sumsOf_67 : f_X9_sumsOfa [zR 1, zR 2] h0_X9_sumsOf_67 (zrk (zU) h1_X9_sumsOf_67) = true := by decide +kernel
noncomputable def g_X9_sumsOf_67 {d : Nat} : List zV → zH d → zP d → Bool := zsmyM [(0, 0), (0, 1), (1, 21), (1, 20), (1, 22), (1, 33), (1, 3), (1, 31), (1, 32), (1, 26), (1, 27)] [zR 1, zR 2] h0_X9_sumsOf_67 (zU) h1_X9_sumsOf_67
theorem mg_X9_sumsOf_67 {d : Nat} : zMet (d := d) X_X9_sumsOf yX9_sumsOf 17 g_X9_sumsOf_67 := zMet_smM m_X9_sumsOfa ev_X9_sumsOf_67
noncomputable def h0_X9_sumsOf_68 : zH 4 := (show zT 4 from ((zk_99_zs1_99_f00_X9_sumsOf_40, (((0, 456, bg_55), zk_99_zs1_99_f00_X9_sumsOf_53), ((0, 66, bg_5), zk_99_zs1_99_f00_X9_sumsOf_0))), zk_99_zs1_99_f00_X9_sumsOf_41), (11, (0, 0)))
noncomputable def h1_X9_sumsOf_68 : zH 4 := (show zT 4 from ((zk_99_zs1_99_f00_X9_sumsOf_40, (((0, 456, bg_55), zk_99_zs1_99_f00_X9_sumsOf_53), ((0, 66, bg_5), zk_99_zs1_99_f00_X9_sumsOf_0))), zk_99_zs1_99_f00_X9_sumsOf_41), (11, (0, 0)))
theorem ev_X9_sumsOf_68 : f_X9_sumsOfa [zR 1, zR 2] h0_X9_sumsOf_68 (zrk (zU) h1_X9_sumsOf_68) = true := by decide +kernel
noncomputable def g_X9_sumsOf_68 {d : Nat} : List zV → zH d → zP d → Bool := zsmyM [(0, 0), (0, 1), (1, 21), (1, 20), (1, 22), (1, 33), (1, 3), (1, 31), (1, 32), (1, 26), (1, 27)] [zR 1, zR 2] h0_X9_sumsOf_68 (zU) h1_X9_sumsOf_68
theorem mg_X9_sumsOf_68 {d : Nat} : zMet (d := d) X_X9_sumsOf yX9_sumsOf 17 g_X9_sumsOf_68 := zMet_smM m_X9_sumsOfa ev_X9_sumsOf_68
noncomputable def h0_X9_sumsOf_69 : zH 4 := (show zT 4 from ((zk_99_zs1_99_f00_X9_sumsOf_42, (((0, 456, bg_58), zk_99_zs1_99_f00_X9_sumsOf_36), ((0, 66, bg_5), zk_99_zs1_99_f00_X9_sumsOf_0))), zk_99_zs1_99_f00_X9_sumsOf_43), (11, (0, 0)))
noncomputable def h1_X9_sumsOf_69 : zH 4 := (show zT 4 from ((zk_99_zs1_99_f00_X9_sumsOf_42, (((0, 456, bg_58), zk_99_zs1_99_f00_X9_sumsOf_36), ((0, 66, bg_5), zk_99_zs1_99_f00_X9_sumsOf_0))), zk_99_zs1_99_f00_X9_sumsOf_43), (11, (0, 0)))
theorem ev_X9_sumsOf_69 : f_X9_sumsOfa [zR 1, zR 2] h0_X9_sumsOf_69 (zrk (zU) h1_X9_sumsOf_69) = true := by decide +kernel
noncomputable def g_X9_sumsOf_69 {d : Nat} : List zV → zH d → zP d → Bool := zsmyM [(0, 0), (0, 1), (1, 21), (1, 20), (1, 22), (1, 33), (1, 3), (1, 31), (1, 32), (1, 26), (1, 27)] [zR 1, zR 2] h0_X9_sumsOf_69 (zU) h1_X9_sumsOf_69
theorem mg_X9_sumsOf_69 {d : Nat} : zMet (d := d) X_X9_sumsOf yX9_sumsOf 17 g_X9_sumsOf_69 := zMet_smM m_X9_sumsOfa ev_X9_sumsOf_69
noncomputable def h0_X9_sumsOf_70 : zH 4 := (show zT 4 from ((zk_99_zs1_99_f00_X9_sumsOf_42, (((0, 456, bg_58), zk_99_zs1_99_f00_X9_sumsOf_50), ((0, 66, bg_5), zk_99_zs1_99_f00_X9_sumsOf_0))), zk_99_zs1_99_f00_X9_sumsOf_43), (11, (0, 0)))
noncomputable def h1_X9_sumsOf_70 : zH 4 := (show zT 4 from ((zk_99_zs1_99_f00_X9_sumsOf_42, (((0, 456, bg_58), zk_99_zs1_99_f00_X9_sumsOf_50), ((0, 66, bg_5), zk_99_zs1_99_f00_X9_sumsOf_0))), zk_99_zs1_99_f00_X9_sumsOf_43), (11, (0, 0)))
theorem ev_X9_sumsOf_70 : f_X9_sumsOfa [zR 1, zR 2] h0_X9_sumsOf_70 (zrk (zU) h1_X9_sumsOf_70) = true := by decide +kernel
noncomputable def g_X9_sumsOf_70 {d : Nat} : List zV → zH d → zP d → Bool := zsmyM [(0, 0), (0, 1), (1, 21), (1, 20), (1, 22), (1, 33), (1, 3), (1, 31), (1, 32), (1, 26), (1, 27)] [zR 1, zR 2] h0_X9_sumsOf_70 (zU) h1_X9_sumsOf_70
theorem mg_X9_sumsOf_70 {d : Nat} : zMet (d := d) X_X9_sumsOf yX9_sumsOf 17 g_X9_sumsOf_70 := zMet_smM m_X9_sumsOfa ev_X9_sumsOf_70
noncomputable def h0_X9_sumsOf_71 : zH 4 := (show zT 4 from ((zk_99_zs1_99_f00_X9_sumsOf_42, (((0, 456, bg_58), zk_99_zs1_99_f00_X9_sumsOf_51), ((0, 66, bg_5), zk_99_zs1_99_f00_X9_sumsOf_0))), zk_99_zs1_99_f00_X9_sumsOf_43), (11, (0, 0)))
noncomputable def h1_X9_sumsOf_71 : zH 4 := (show zT 4 from ((zk_99_zs1_99_f00_X9_sumsOf_42, (((0, 456, bg_58), zk_99_zs1_99_f00_X9_sumsOf_51), ((0, 66, bg_5), zk_99_zs1_99_f00_X9_sumsOf_0))), zk_99_zs1_99_f00_X9_sumsOf_43), (11, (0, 0)))
theorem ev_X9_sumsOf_71 : f_X9_sumsOfa [zR 1, zR 2] h0_X9_sumsOf_71 (zrk (zU) h1_X9_sumsOf_71) = true := by decide +kernel
noncomputable def g_X9_sumsOf_71 {d : Nat} : List zV → zH d → zP d → Bool := zsmyM [(0, 0), (0, 1), (1, 21), (1, 20), (1, 22), (1, 33), (1, 3), (1, 31), (1, 32), (1, 26), (1, 27)] [zR 1, zR 2] h0_X9_sumsOf_71 (zU) h1_X9_sumsOf_71
theorem mg_X9_sumsOf_71 {d : Nat} : zMet (d := d) X_X9_sumsOf yX9_sumsOf 17 g_X9_sumsOf_71 := zMet_smM m_X9_sumsOfa ev_X9_sumsOf_71
noncomputable def h0_X9_sumsOf_72 : zH 4 := (show zT 4 from ((zk_99_zs1_99_f00_X9_sumsOf_42, (((0, 456, bg_58), zk_99_zs1_99_f00_X9_sumsOf_52), ((0, 66, bg_5), zk_99_zs1_99_f00_X9_sumsOf_0))), zk_99_zs1_99_f00_X9_sumsOf_43), (11, (0, 0)))
noncomputable def h1_X9_sumsOf_72 : zH 4 := (show zT 4 from ((zk_99_zs1_99_f00_X9_sumsOf_42, (((0, 456, bg_58), zk_99_zs1_99_f00_X9_sumsOf_52), ((0, 66, bg_5), zk_99_zs1_99_f00_X9_sumsOf_0))), zk_99_zs1_99_f00_X9_sumsOf_43), (11, (0, 0)))
theorem ev_X9_sumsOf_72 : f_X9_sumsOfa [zR 1, zR 2] h0_X9_sumsOf_72 (zrk (zU) h1_X9_sumsOf_72) = true := by decide +kernel
noncomputable def g_X9_sumsOf_72 {d : Nat} : List zV → zH d → zP d → Bool := zsmyM [(0, 0), (0, 1), (1, 21), (1, 20), (1, 22), (1, 33), (1, 3), (1, 31), (1, 32), (1, 26), (1, 27)] [zR 1, zR 2] h0_X9_sumsOf_72 (zU) h1_X9_sumsOf_72
theorem mg_X9_sumsOf_72 {d : Nat} : zMet (d := d) X_X9_sumsOf yX9_sumsOf 17 g_X9_sumsOf_72 := zMet_smM m_X9_sumsOfa ev_X9_sumsOf_72
noncomputable def h0_X9_sumsOf_73 : zH 4 := (show zT 4 from ((zk_99_zs1_99_f00_X9_sumsOf_42, (((0, 456, bg_58), zk_99_zs1_99_f00_X9_sumsOf_53), ((0, 66, bg_5), zk_99_zs1_99_f00_X9_sumsOf_0))), zk_99_zs1_99_f00_X9_sumsOf_43), (11, (0, 0)))
noncomputable def h1_X9_sumsOf_73 : zH 4 := (show zT 4 from ((zk_99_zs1_99_f00_X9_sumsOf_42, (((0, 456, bg_58), zk_99_zs1_99_f00_X9_sumsOf_53), ((0, 66, bg_5), zk_99_zs1_99_f00_X9_sumsOf_0))), zk_99_zs1_99_f00_X9_sumsOf_43), (11, (0, 0)))
theorem ev_X9_sumsOf_73 : f_X9_sumsOfa [zR 1, zR 2] h0_X9_sumsOf_73 (zrk (zU) h1_X9_sumsOf_73) = true := by decide +kernel
noncomputable def g_X9_sumsOf_73 {d : Nat} : List zV → zH d → zP d → Bool := zsmyM [(0, 0), (0, 1), (1, 21), (1, 20), (1, 22), (1, 33), (1, 3), (1, 31), (1, 32), (1, 26), (1, 27)] [zR 1, zR 2] h0_X9_sumsOf_73 (zU) h1_X9_sumsOf_73
theorem mg_X9_sumsOf_73 {d : Nat} : zMet (d := d) X_X9_sumsOf yX9_sumsOf 17 g_X9_sumsOf_73 := zMet_smM m_X9_sumsOfa ev_X9_sumsOf_73
noncomputable def h0_X9_sumsOf_74 : zH 4 := (show zT 4 from ((zk_99_zs1_99_f00_X9_sumsOf_44, (((0, 456, bg_61), zk_99_zs1_99_f00_X9_sumsOf_36), ((0, 66, bg_5), zk_99_zs1_99_f00_X9_sumsOf_0))), zk_99_zs1_99_f00_X9_sumsOf_45), (11, (0, 0)))
noncomputable def h1_X9_sumsOf_74 : zH 4 := (show zT 4 from ((zk_99_zs1_99_f00_X9_sumsOf_44, (((0, 456, bg_61), zk_99_zs1_99_f00_X9_sumsOf_36), ((0, 66, bg_5), zk_99_zs1_99_f00_X9_sumsOf_0))), zk_99_zs1_99_f00_X9_sumsOf_45), (11, (0, 0)))
theorem ev_X9_sumsOf_74 : f_X9_sumsOfa [zR 1, zR 2] h0_X9_sumsOf_74 (zrk (zU) h1_X9_sumsOf_74) = true := by decide +kernel
noncomputable def g_X9_sumsOf_74 {d : Nat} : List zV → zH d → zP d → Bool := zsmyM [(0, 0), (0, 1), (1, 21), (1, 20), (1, 22), (1, 33), (1, 3), (1, 31), (1, 32), (1, 26), (1, 27)] [zR 1, zR 2] h0_X9_sumsOf_74 (zU) h1_X9_sumsOf_74
theorem mg_X9_sumsOf_74 {d : Nat} : zMet (d := d) X_X9_sumsOf yX9_sumsOf 17 g_X9_sumsOf_74 := zMet_smM m_X9_sumsOfa ev_X9_sumsOf_74
noncomputable def h0_X9_sumsOf_75 : zH 4 := (show zT 4 from ((zk_99_zs1_99_f00_X9_sumsOf_44, (((0, 456, bg_61), zk_99_zs1_99_f00_X9_sumsOf_50), ((0, 66, bg_5), zk_99_zs1_99_f00_X9_sumsOf_0))), zk_99_zs1_99_f00_X9_sumsOf_45), (11, (0, 0)))
noncomputable def h1_X9_sumsOf_75 : zH 4 := (show zT 4 from ((zk_99_zs1_99_f00_X9_sumsOf_44, (((0, 456, bg_61), zk_99_zs1_99_f00_X9_sumsOf_50), ((0, 66, bg_5), zk_99_zs1_99_f00_X9_sumsOf_0))), zk_99_zs1_99_f00_X9_sumsOf_45), (11, (0, 0)))
theorem ev_X9_sumsOf_75 : f_X9_sumsOfa [zR 1, zR 2] h0_X9_sumsOf_75 (zrk (zU) h1_X9_sumsOf_75) = true := by decide +kernel
noncomputable def g_X9_sumsOf_75 {d : Nat} : List zV → zH d → zP d → Bool := zsmyM [(0, 0), (0, 1), (1, 21), (1, 20), (1, 22), (1, 33), (1, 3), (1, 31), (1, 32), (1, 26), (1, 27)] [zR 1, zR 2] h0_X9_sumsOf_75 (zU) h1_X9_sumsOf_75
theorem mg_X9_sumsOf_75 {d : Nat} : zMet (d := d) X_X9_sumsOf yX9_sumsOf 17 g_X9_sumsOf_75 := zMet_smM m_X9_sumsOfa ev_X9_sumsOf_75
noncomputable def h0_X9_sumsOf_76 : zH 4 := (show zT 4 from ((zk_99_zs1_99_f00_X9_sumsOf_44, (((0, 456, bg_61), zk_99_zs1_99_f00_X9_sumsOf_51), ((0, 66, bg_5), zk_99_zs1_99_f00_X9_sumsOf_0))), zk_99_zs1_99_f00_X9_sumsOf_45), (11, (0, 0)))
noncomputable def h1_X9_sumsOf_76 : zH 4 := (show zT 4 from ((zk_99_zs1_99_f00_X9_sumsOf_44, (((0, 456, bg_61), zk_99_zs1_99_f00_X9_sumsOf_51), ((0, 66, bg_5), zk_99_zs1_99_f00_X9_sumsOf_0))), zk_99_zs1_99_f00_X9_sumsOf_45), (11, (0, 0)))
theorem ev_X9_sumsOf_76 : f_X9_sumsOfa [zR 1, zR 2] h0_X9_sumsOf_76 (zrk (zU) h1_X9_sumsOf_76) = true := by decide +kernel
noncomputable def g_X9_sumsOf_76 {d : Nat} : List zV → zH d → zP d → Bool := zsmyM [(0, 0), (0, 1), (1, 21), (1, 20), (1, 22), (1, 33), (1, 3), (1, 31), (1, 32), (1, 26), (1, 27)] [zR 1, zR 2] h0_X9_sumsOf_76 (zU) h1_X9_sumsOf_76
theorem mg_X9_sumsOf_76 {d : Nat} : zMet (d := d) X_X9_sumsOf yX9_sumsOf 17 g_X9_sumsOf_76 := zMet_smM m_X9_sumsOfa ev_X9_sumsOf_76
noncomputable def h0_X9_sumsOf_77 : zH 4 := (show zT 4 from ((zk_99_zs1_99_f00_X9_sumsOf_44, (((0, 456, bg_61), zk_99_zs1_99_f00_X9_sumsOf_52), ((0, 66, bg_5), zk_99_zs1_99_f00_X9_sumsOf_0))), zk_99_zs1_99_f00_X9_sumsOf_45), (11, (0, 0)))
noncomputable def h1_X9_sumsOf_77 : zH 4 := (show zT 4 from ((zk_99_zs1_99_f00_X9_sumsOf_44, (((0, 456, bg_61), zk_99_zs1_99_f00_X9_sumsOf_52), ((0, 66, bg_5), zk_99_zs1_99_f00_X9_sumsOf_0))), zk_99_zs1_99_f00_X9_sumsOf_45), (11, (0, 0)))
theorem ev_X9_sumsOf_77 : f_X9_sumsOfa [zR 1, zR 2] h0_X9_sumsOf_77 (zrk (zU) h1_X9_sumsOf_77) = true := by decide +kernel
noncomputable def g_X9_sumsOf_77 {d : Nat} : List zV → zH d → zP d → Bool := zsmyM [(0, 0), (0, 1), (1, 21), (1, 20), (1, 22), (1, 33), (1, 3), (1, 31), (1, 32), (1, 26), (1, 27)] [zR 1, zR 2] h0_X9_sumsOf_77 (zU) h1_X9_sumsOf_77
theorem mg_X9_sumsOf_77 {d : Nat} : zMet (d := d) X_X9_sumsOf yX9_sumsOf 17 g_X9_sumsOf_77 := zMet_smM m_X9_sumsOfa ev_X9_sumsOf_77
noncomputable def h0_X9_sumsOf_78 : zH 4 := (show zT 4 from ((zk_99_zs1_99_f00_X9_sumsOf_44, (((0, 456, bg_61), zk_99_zs1_99_f00_X9_sumsOf_53), ((0, 66, bg_5), zk_99_zs1_99_f00_X9_sumsOf_0))), zk_99_zs1_99_f00_X9_sumsOf_45), (11, (0, 0)))
noncomputable def h1_X9_sumsOf_78 : zH 4 := (show zT 4 from ((zk_99_zs1_99_f00_X9_sumsOf_44, (((0, 456, bg_61), zk_99_zs1_99_f00_X9_sumsOf_53), ((0, 66, bg_5), zk_99_zs1_99_f00_X9_sumsOf_0))), zk_99_zs1_99_f00_X9_sumsOf_45), (11, (0, 0)))
theorem ev_X9_sumsOf_78 : f_X9_sumsOfa [zR 1, zR 2] h0_X9_sumsOf_78 (zrk (zU) h1_X9_sumsOf_78) = true := by decide +kernel
noncomputable def g_X9_sumsOf_78 {d : Nat} : List zV → zH d → zP d → Bool := zsmyM [(0, 0), (0, 1), (1, 21), (1, 20), (1, 22), (1, 33), (1, 3), (1, 31), (1, 32), (1, 26), (1, 27)] [zR 1, zR 2] h0_X9_sumsOf_78 (zU) h1_X9_sumsOf_78
theorem mg_X9_sumsOf_78 {d : Nat} : zMet (d := d) X_X9_sumsOf yX9_sumsOf 17 g_X9_sumsOf_78 := zMet_smM m_X9_sumsOfa ev_X9_sumsOf_78
noncomputable def zk_99_zs1_99_f00_X9_sumsOf_54 : zC := (0, 7, 0x100000000000000000400000000050000000001000000000300000000020100000000)
noncomputable def h0_X9_sumsOf_79 : zH 4 := (show zT 4 from ((zk_99_zs1_99_f00_X9_sumsOf_33, (((0, 456, bg_49), zk_99_zs1_99_f00_X9_sumsOf_54), ((0, 66, bg_5), zk_99_zs1_99_f00_X9_sumsOf_0))), zk_99_zs1_99_f00_X9_sumsOf_35), (11, (0, 0)))
noncomputable def h1_X9_sumsOf_79 : zH 4 := (show zT 4 from ((zk_99_zs1_99_f00_X9_sumsOf_33, (((0, 456, bg_49), zk_99_zs1_99_f00_X9_sumsOf_54), ((0, 66, bg_5), zk_99_zs1_99_f00_X9_sumsOf_0))), zk_99_zs1_99_f00_X9_sumsOf_35), (11, (0, 0)))
theorem ev_X9_sumsOf_79 : f_X9_sumsOfa [zR 1, zR 2] h0_X9_sumsOf_79 (zrk (zU) h1_X9_sumsOf_79) = true := by decide +kernel
noncomputable def g_X9_sumsOf_79 {d : Nat} : List zV → zH d → zP d → Bool := zsmyM [(0, 0), (0, 1), (1, 21), (1, 20), (1, 22), (1, 33), (1, 3), (1, 31), (1, 32), (1, 26), (1, 27)] [zR 1, zR 2] h0_X9_sumsOf_79 (zU) h1_X9_sumsOf_79
theorem mg_X9_sumsOf_79 {d : Nat} : zMet (d := d) X_X9_sumsOf yX9_sumsOf 17 g_X9_sumsOf_79 := zMet_smM m_X9_sumsOfa ev_X9_sumsOf_79
noncomputable def zk_99_zs1_99_f00_X9_sumsOf_55 : zC := (0, 7, 0x100000000000000000500000000040000000002000000000100000000030100000000)
noncomputable def h0_X9_sumsOf_80 : zH 4 := (show zT 4 from ((zk_99_zs1_99_f00_X9_sumsOf_33, (((0, 456, bg_49), zk_99_zs1_99_f00_X9_sumsOf_55), ((0, 66, bg_5), zk_99_zs1_99_f00_X9_sumsOf_0))), zk_99_zs1_99_f00_X9_sumsOf_35), (11, (0, 0)))
noncomputable def h1_X9_sumsOf_80 : zH 4 := (show zT 4 from ((zk_99_zs1_99_f00_X9_sumsOf_33, (((0, 456, bg_49), zk_99_zs1_99_f00_X9_sumsOf_55), ((0, 66, bg_5), zk_99_zs1_99_f00_X9_sumsOf_0))), zk_99_zs1_99_f00_X9_sumsOf_35), (11, (0, 0)))
theorem ev_X9_sumsOf_80 : f_X9_sumsOfa [zR 1, zR 2] h0_X9_sumsOf_80 (zrk (zU) h1_X9_sumsOf_80) = true := by decide +kernel
noncomputable def g_X9_sumsOf_80 {d : Nat} : List zV → zH d → zP d → Bool := zsmyM [(0, 0), (0, 1), (1, 21), (1, 20), (1, 22), (1, 33), (1, 3), (1, 31), (1, 32), (1, 26), (1, 27)] [zR 1, zR 2] h0_X9_sumsOf_80 (zU) h1_X9_sumsOf_80
theorem mg_X9_sumsOf_80 {d : Nat} : zMet (d := d) X_X9_sumsOf yX9_sumsOf 17 g_X9_sumsOf_80 := zMet_smM m_X9_sumsOfa ev_X9_sumsOf_80
noncomputable def zk_99_zs1_99_f00_X9_sumsOf_56 : zC := (0, 7, 0x100000000000000000400000000050000000003000000000200000000010100000000)
noncomputable def h0_X9_sumsOf_81 : zH 4 := (show zT 4 from ((zk_99_zs1_99_f00_X9_sumsOf_33, (((0, 456, bg_49), zk_99_zs1_99_f00_X9_sumsOf_56), ((0, 66, bg_5), zk_99_zs1_99_f00_X9_sumsOf_0))), zk_99_zs1_99_f00_X9_sumsOf_35), (11, (0, 0)))
noncomputable def h1_X9_sumsOf_81 : zH 4 := (show zT 4 from ((zk_99_zs1_99_f00_X9_sumsOf_33, (((0, 456, bg_49), zk_99_zs1_99_f00_X9_sumsOf_56), ((0, 66, bg_5), zk_99_zs1_99_f00_X9_sumsOf_0))), zk_99_zs1_99_f00_X9_sumsOf_35), (11, (0, 0)))
theorem ev_X9_sumsOf_81 : f_X9_sumsOfa [zR 1, zR 2] h0_X9_sumsOf_81 (zrk (zU) h1_X9_sumsOf_81) = true := by decide +kernel
noncomputable def g_X9_sumsOf_81 {d : Nat} : List zV → zH d → zP d → Bool := zsmyM [(0, 0), (0, 1), (1, 21), (1, 20), (1, 22), (1, 33), (1, 3), (1, 31), (1, 32), (1, 26), (1, 27)] [zR 1, zR 2] h0_X9_sumsOf_81 (zU) h1_X9_sumsOf_81
theorem mg_X9_sumsOf_81 {d : Nat} : zMet (d := d) X_X9_sumsOf yX9_sumsOf 17 g_X9_sumsOf_81 := zMet_smM m_X9_sumsOfa ev_X9_sumsOf_81
noncomputable def h0_X9_sumsOf_82 : zH 4 := (show zT 4 from ((zk_99_zs1_99_f00_X9_sumsOf_38, (((0, 456, bg_52), zk_99_zs1_99_f00_X9_sumsOf_54), ((0, 66, bg_5), zk_99_zs1_99_f00_X9_sumsOf_0))), zk_99_zs1_99_f00_X9_sumsOf_39), (11, (0, 0)))
noncomputable def h1_X9_sumsOf_82 : zH 4 := (show zT 4 from ((zk_99_zs1_99_f00_X9_sumsOf_38, (((0, 456, bg_52), zk_99_zs1_99_f00_X9_sumsOf_54), ((0, 66, bg_5), zk_99_zs1_99_f00_X9_sumsOf_0))), zk_99_zs1_99_f00_X9_sumsOf_39), (11, (0, 0)))
theorem ev_X9_sumsOf_82 : f_X9_sumsOfa [zR 1, zR 2] h0_X9_sumsOf_82 (zrk (zU) h1_X9_sumsOf_82) = true := by decide +kernel
noncomputable def g_X9_sumsOf_82 {d : Nat} : List zV → zH d → zP d → Bool := zsmyM [(0, 0), (0, 1), (1, 21), (1, 20), (1, 22), (1, 33), (1, 3), (1, 31), (1, 32), (1, 26), (1, 27)] [zR 1, zR 2] h0_X9_sumsOf_82 (zU) h1_X9_sumsOf_82
theorem mg_X9_sumsOf_82 {d : Nat} : zMet (d := d) X_X9_sumsOf yX9_sumsOf 17 g_X9_sumsOf_82 := zMet_smM m_X9_sumsOfa ev_X9_sumsOf_82
noncomputable def h0_X9_sumsOf_83 : zH 4 := (show zT 4 from ((zk_99_zs1_99_f00_X9_sumsOf_38, (((0, 456, bg_52), zk_99_zs1_99_f00_X9_sumsOf_55), ((0, 66, bg_5), zk_99_zs1_99_f00_X9_sumsOf_0))), zk_99_zs1_99_f00_X9_sumsOf_39), (11, (0, 0)))
noncomputable def h1_X9_sumsOf_83 : zH 4 := (show zT 4 from ((zk_99_zs1_99_f00_X9_sumsOf_38, (((0, 456, bg_52), zk_99_zs1_99_f00_X9_sumsOf_55), ((0, 66, bg_5), zk_99_zs1_99_f00_X9_sumsOf_0))), zk_99_zs1_99_f00_X9_sumsOf_39), (11, (0, 0)))
theorem ev_X9_sumsOf_83 : f_X9_sumsOfa [zR 1, zR 2] h0_X9_sumsOf_83 (zrk (zU) h1_X9_sumsOf_83) = true := by decide +kernel
noncomputable def g_X9_sumsOf_83 {d : Nat} : List zV → zH d → zP d → Bool := zsmyM [(0, 0), (0, 1), (1, 21), (1, 20), (1, 22), (1, 33), (1, 3), (1, 31), (1, 32), (1, 26), (1, 27)] [zR 1, zR 2] h0_X9_sumsOf_83 (zU) h1_X9_sumsOf_83
theorem mg_X9_sumsOf_83 {d : Nat} : zMet (d := d) X_X9_sumsOf yX9_sumsOf 17 g_X9_sumsOf_83 := zMet_smM m_X9_sumsOfa ev_X9_sumsOf_83
noncomputable def h0_X9_sumsOf_84 : zH 4 := (show zT 4 from ((zk_99_zs1_99_f00_X9_sumsOf_38, (((0, 456, bg_52), zk_99_zs1_99_f00_X9_sumsOf_56), ((0, 66, bg_5), zk_99_zs1_99_f00_X9_sumsOf_0))), zk_99_zs1_99_f00_X9_sumsOf_39), (11, (0, 0)))
noncomputable def h1_X9_sumsOf_84 : zH 4 := (show zT 4 from ((zk_99_zs1_99_f00_X9_sumsOf_38, (((0, 456, bg_52), zk_99_zs1_99_f00_X9_sumsOf_56), ((0, 66, bg_5), zk_99_zs1_99_f00_X9_sumsOf_0))), zk_99_zs1_99_f00_X9_sumsOf_39), (11, (0, 0)))
theorem ev_X9_sumsOf_84 : f_X9_sumsOfa [zR 1, zR 2] h0_X9_sumsOf_84 (zrk (zU) h1_X9_sumsOf_84) = true := by decide +kernel
noncomputable def g_X9_sumsOf_84 {d : Nat} : List zV → zH d → zP d → Bool := zsmyM [(0, 0), (0, 1), (1, 21), (1, 20), (1, 22), (1, 33), (1, 3), (1, 31), (1, 32), (1, 26), (1, 27)] [zR 1, zR 2] h0_X9_sumsOf_84 (zU) h1_X9_sumsOf_84
theorem mg_X9_sumsOf_84 {d : Nat} : zMet (d := d) X_X9_sumsOf yX9_sumsOf 17 g_X9_sumsOf_84 := zMet_smM m_X9_sumsOfa ev_X9_sumsOf_84
noncomputable def h0_X9_sumsOf_85 : zH 4 := (show zT 4 from ((zk_99_zs1_99_f00_X9_sumsOf_40, (((0, 456, bg_55), zk_99_zs1_99_f00_X9_sumsOf_54), ((0, 66, bg_5), zk_99_zs1_99_f00_X9_sumsOf_0))), zk_99_zs1_99_f00_X9_sumsOf_41), (11, (0, 0)))
noncomputable def h1_X9_sumsOf_85 : zH 4 := (show zT 4 from ((zk_99_zs1_99_f00_X9_sumsOf_40, (((0, 456, bg_55), zk_99_zs1_99_f00_X9_sumsOf_54), ((0, 66, bg_5), zk_99_zs1_99_f00_X9_sumsOf_0))), zk_99_zs1_99_f00_X9_sumsOf_41), (11, (0, 0)))
theorem ev_X9_sumsOf_85 : f_X9_sumsOfa [zR 1, zR 2] h0_X9_sumsOf_85 (zrk (zU) h1_X9_sumsOf_85) = true := by decide +kernel
noncomputable def g_X9_sumsOf_85 {d : Nat} : List zV → zH d → zP d → Bool := zsmyM [(0, 0), (0, 1), (1, 21), (1, 20), (1, 22), (1, 33), (1, 3), (1, 31), (1, 32), (1, 26), (1, 27)] [zR 1, zR 2] h0_X9_sumsOf_85 (zU) h1_X9_sumsOf_85
theorem mg_X9_sumsOf_85 {d : Nat} : zMet (d := d) X_X9_sumsOf yX9_sumsOf 17 g_X9_sumsOf_85 := zMet_smM m_X9_sumsOfa ev_X9_sumsOf_85
noncomputable def h0_X9_sumsOf_86 : zH 4 := (show zT 4 from ((zk_99_zs1_99_f00_X9_sumsOf_40, (((0, 456, bg_55), zk_99_zs1_99_f00_X9_sumsOf_55), ((0, 66, bg_5), zk_99_zs1_99_f00_X9_sumsOf_0))), zk_99_zs1_99_f00_X9_sumsOf_41), (11, (0, 0)))
noncomputable def h1_X9_sumsOf_86 : zH 4 := (show zT 4 from ((zk_99_zs1_99_f00_X9_sumsOf_40, (((0, 456, bg_55), zk_99_zs1_99_f00_X9_sumsOf_55), ((0, 66, bg_5), zk_99_zs1_99_f00_X9_sumsOf_0))), zk_99_zs1_99_f00_X9_sumsOf_41), (11, (0, 0)))
theorem ev_X9_sumsOf_86 : f_X9_sumsOfa [zR 1, zR 2] h0_X9_sumsOf_86 (zrk (zU) h1_X9_sumsOf_86) = true := by decide +kernel
noncomputable def g_X9_sumsOf_86 {d : Nat} : List zV → zH d → zP d → Bool := zsmyM [(0, 0), (0, 1), (1, 21), (1, 20), (1, 22), (1, 33), (1, 3), (1, 31), (1, 32), (1, 26), (1, 27)] [zR 1, zR 2] h0_X9_sumsOf_86 (zU) h1_X9_sumsOf_86
theorem mg_X9_sumsOf_86 {d : Nat} : zMet (d := d) X_X9_sumsOf yX9_sumsOf 17 g_X9_sumsOf_86 := zMet_smM m_X9_sumsOfa ev_X9_sumsOf_86
noncomputable def h0_X9_sumsOf_87 : zH 4 := (show zT 4 from ((zk_99_zs1_99_f00_X9_sumsOf_40, (((0, 456, bg_55), zk_99_zs1_99_f00_X9_sumsOf_56), ((0, 66, bg_5), zk_99_zs1_99_f00_X9_sumsOf_0))), zk_99_zs1_99_f00_X9_sumsOf_41), (11, (0, 0)))
noncomputable def h1_X9_sumsOf_87 : zH 4 := (show zT 4 from ((zk_99_zs1_99_f00_X9_sumsOf_40, (((0, 456, bg_55), zk_99_zs1_99_f00_X9_sumsOf_56), ((0, 66, bg_5), zk_99_zs1_99_f00_X9_sumsOf_0))), zk_99_zs1_99_f00_X9_sumsOf_41), (11, (0, 0)))
theorem ev_X9_sumsOf_87 : f_X9_sumsOfa [zR 1, zR 2] h0_X9_sumsOf_87 (zrk (zU) h1_X9_sumsOf_87) = true := by decide +kernel
noncomputable def g_X9_sumsOf_87 {d : Nat} : List zV → zH d → zP d → Bool := zsmyM [(0, 0), (0, 1), (1, 21), (1, 20), (1, 22), (1, 33), (1, 3), (1, 31), (1, 32), (1, 26), (1, 27)] [zR 1, zR 2] h0_X9_sumsOf_87 (zU) h1_X9_sumsOf_87
theorem mg_X9_sumsOf_87 {d : Nat} : zMet (d := d) X_X9_sumsOf yX9_sumsOf 17 g_X9_sumsOf_87 := zMet_smM m_X9_sumsOfa ev_X9_sumsOf_87
noncomputable def h0_X9_sumsOf_88 : zH 4 := (show zT 4 from ((zk_99_zs1_99_f00_X9_sumsOf_42, (((0, 456, bg_58), zk_99_zs1_99_f00_X9_sumsOf_54), ((0, 66, bg_5), zk_99_zs1_99_f00_X9_sumsOf_0))), zk_99_zs1_99_f00_X9_sumsOf_43), (11, (0, 0)))
noncomputable def h1_X9_sumsOf_88 : zH 4 := (show zT 4 from ((zk_99_zs1_99_f00_X9_sumsOf_42, (((0, 456, bg_58), zk_99_zs1_99_f00_X9_sumsOf_54), ((0, 66, bg_5), zk_99_zs1_99_f00_X9_sumsOf_0))), zk_99_zs1_99_f00_X9_sumsOf_43), (11, (0, 0)))
theorem ev_X9_sumsOf_88 : f_X9_sumsOfa [zR 1, zR 2] h0_X9_sumsOf_88 (zrk (zU) h1_X9_sumsOf_88) = true := by decide +kernel
noncomputable def g_X9_sumsOf_88 {d : Nat} : List zV → zH d → zP d → Bool := zsmyM [(0, 0), (0, 1), (1, 21), (1, 20), (1, 22), (1, 33), (1, 3), (1, 31), (1, 32), (1, 26), (1, 27)] [zR 1, zR 2] h0_X9_sumsOf_88 (zU) h1_X9_sumsOf_88
theorem mg_X9_sumsOf_88 {d : Nat} : zMet (d := d) X_X9_sumsOf yX9_sumsOf 17 g_X9_sumsOf_88 := zMet_smM m_X9_sumsOfa ev_X9_sumsOf_88
noncomputable def h0_X9_sumsOf_89 : zH 4 := (show zT 4 from ((zk_99_zs1_99_f00_X9_sumsOf_42, (((0, 456, bg_58), zk_99_zs1_99_f00_X9_sumsOf_55), ((0, 66, bg_5), zk_99_zs1_99_f00_X9_sumsOf_0))), zk_99_zs1_99_f00_X9_sumsOf_43), (11, (0, 0)))
noncomputable def h1_X9_sumsOf_89 : zH 4 := (show zT 4 from ((zk_99_zs1_99_f00_X9_sumsOf_42, (((0, 456, bg_58), zk_99_zs1_99_f00_X9_sumsOf_55), ((0, 66, bg_5), zk_99_zs1_99_f00_X9_sumsOf_0))), zk_99_zs1_99_f00_X9_sumsOf_43), (11, (0, 0)))
theorem ev_X9_sumsOf_89 : f_X9_sumsOfa [zR 1, zR 2] h0_X9_sumsOf_89 (zrk (zU) h1_X9_sumsOf_89) = true := by decide +kernel
noncomputable def g_X9_sumsOf_89 {d : Nat} : List zV → zH d → zP d → Bool := zsmyM [(0, 0), (0, 1), (1, 21), (1, 20), (1, 22), (1, 33), (1, 3), (1, 31), (1, 32), (1, 26), (1, 27)] [zR 1, zR 2] h0_X9_sumsOf_89 (zU) h1_X9_sumsOf_89
theorem mg_X9_sumsOf_89 {d : Nat} : zMet (d := d) X_X9_sumsOf yX9_sumsOf 17 g_X9_sumsOf_89 := zMet_smM m_X9_sumsOfa ev_X9_sumsOf_89
noncomputable def h0_X9_sumsOf_90 : zH 4 := (show zT 4 from ((zk_99_zs1_99_f00_X9_sumsOf_42, (((0, 456, bg_58), zk_99_zs1_99_f00_X9_sumsOf_56), ((0, 66, bg_5), zk_99_zs1_99_f00_X9_sumsOf_0))), zk_99_zs1_99_f00_X9_sumsOf_43), (11, (0, 0)))
noncomputable def h1_X9_sumsOf_90 : zH 4 := (show zT 4 from ((zk_99_zs1_99_f00_X9_sumsOf_42, (((0, 456, bg_58), zk_99_zs1_99_f00_X9_sumsOf_56), ((0, 66, bg_5), zk_99_zs1_99_f00_X9_sumsOf_0))), zk_99_zs1_99_f00_X9_sumsOf_43), (11, (0, 0)))
theorem ev_X9_sumsOf_90 : f_X9_sumsOfa [zR 1, zR 2] h0_X9_sumsOf_90 (zrk (zU) h1_X9_sumsOf_90) = true := by decide +kernel
noncomputable def g_X9_sumsOf_90 {d : Nat} : List zV → zH d → zP d → Bool := zsmyM [(0, 0), (0, 1), (1, 21), (1, 20), (1, 22), (1, 33), (1, 3), (1, 31), (1, 32), (1, 26), (1, 27)] [zR 1, zR 2] h0_X9_sumsOf_90 (zU) h1_X9_sumsOf_90
theorem mg_X9_sumsOf_90 {d : Nat} : zMet (d := d) X_X9_sumsOf yX9_sumsOf 17 g_X9_sumsOf_90 := zMet_smM m_X9_sumsOfa ev_X9_sumsOf_90
noncomputable def h0_X9_sumsOf_91 : zH 4 := (show zT 4 from ((zk_99_zs1_99_f00_X9_sumsOf_42, (((0, 456, bg_58), zk_99_zs1_99_f00_X9_sumsOf_37), ((0, 66, bg_5), zk_99_zs1_99_f00_X9_sumsOf_0))), zk_99_zs1_99_f00_X9_sumsOf_43), (11, (0, 0)))
noncomputable def h1_X9_sumsOf_91 : zH 4 := (show zT 4 from ((zk_99_zs1_99_f00_X9_sumsOf_42, (((0, 456, bg_58), zk_99_zs1_99_f00_X9_sumsOf_37), ((0, 66, bg_5), zk_99_zs1_99_f00_X9_sumsOf_0))), zk_99_zs1_99_f00_X9_sumsOf_43), (11, (0, 0)))
theorem ev_X9_sumsOf_91 : f_X9_sumsOfa [zR 1, zR 2] h0_X9_sumsOf_91 (zrk (zU) h1_X9_sumsOf_91) = true := by decide +kernel
noncomputable def g_X9_sumsOf_91 {d : Nat} : List zV → zH d → zP d → Bool := zsmyM [(0, 0), (0, 1), (1, 21), (1, 20), (1, 22), (1, 33), (1, 3), (1, 31), (1, 32), (1, 26), (1, 27)] [zR 1, zR 2] h0_X9_sumsOf_91 (zU) h1_X9_sumsOf_91
theorem mg_X9_sumsOf_91 {d : Nat} : zMet (d := d) X_X9_sumsOf yX9_sumsOf 17 g_X9_sumsOf_91 := zMet_smM m_X9_sumsOfa ev_X9_sumsOf_91
noncomputable def h0_X9_sumsOf_92 : zH 4 := (show zT 4 from ((zk_99_zs1_99_f00_X9_sumsOf_44, (((0, 456, bg_61), zk_99_zs1_99_f00_X9_sumsOf_54), ((0, 66, bg_5), zk_99_zs1_99_f00_X9_sumsOf_0))), zk_99_zs1_99_f00_X9_sumsOf_45), (11, (0, 0)))
noncomputable def h1_X9_sumsOf_92 : zH 4 := (show zT 4 from ((zk_99_zs1_99_f00_X9_sumsOf_44, (((0, 456, bg_61), zk_99_zs1_99_f00_X9_sumsOf_54), ((0, 66, bg_5), zk_99_zs1_99_f00_X9_sumsOf_0))), zk_99_zs1_99_f00_X9_sumsOf_45), (11, (0, 0)))
theorem ev_X9_sumsOf_92 : f_X9_sumsOfa [zR 1, zR 2] h0_X9_sumsOf_92 (zrk (zU) h1_X9_sumsOf_92) = true := by decide +kernel
noncomputable def g_X9_sumsOf_92 {d : Nat} : List zV → zH d → zP d → Bool := zsmyM [(0, 0), (0, 1), (1, 21), (1, 20), (1, 22), (1, 33), (1, 3), (1, 31), (1, 32), (1, 26), (1, 27)] [zR 1, zR 2] h0_X9_sumsOf_92 (zU) h1_X9_sumsOf_92
theorem mg_X9_sumsOf_92 {d : Nat} : zMet (d := d) X_X9_sumsOf yX9_sumsOf 17 g_X9_sumsOf_92 := zMet_smM m_X9_sumsOfa ev_X9_sumsOf_92
noncomputable def h0_X9_sumsOf_93 : zH 4 := (show zT 4 from ((zk_99_zs1_99_f00_X9_sumsOf_44, (((0, 456, bg_61), zk_99_zs1_99_f00_X9_sumsOf_55), ((0, 66, bg_5), zk_99_zs1_99_f00_X9_sumsOf_0))), zk_99_zs1_99_f00_X9_sumsOf_45), (11, (0, 0)))
noncomputable def h1_X9_sumsOf_93 : zH 4 := (show zT 4 from ((zk_99_zs1_99_f00_X9_sumsOf_44, (((0, 456, bg_61), zk_99_zs1_99_f00_X9_sumsOf_55), ((0, 66, bg_5), zk_99_zs1_99_f00_X9_sumsOf_0))), zk_99_zs1_99_f00_X9_sumsOf_45), (11, (0, 0)))
theorem ev_X9_sumsOf_93 : f_X9_sumsOfa [zR 1, zR 2] h0_X9_sumsOf_93 (zrk (zU) h1_X9_sumsOf_93) = true := by decide +kernel
noncomputable def g_X9_sumsOf_93 {d : Nat} : List zV → zH d → zP d → Bool := zsmyM [(0, 0), (0, 1), (1, 21), (1, 20), (1, 22), (1, 33), (1, 3), (1, 31), (1, 32), (1, 26), (1, 27)] [zR 1, zR 2] h0_X9_sumsOf_93 (zU) h1_X9_sumsOf_93
theorem mg_X9_sumsOf_93 {d : Nat} : zMet (d := d) X_X9_sumsOf yX9_sumsOf 17 g_X9_sumsOf_93 := zMet_smM m_X9_sumsOfa ev_X9_sumsOf_93
noncomputable def h0_X9_sumsOf_94 : zH 4 := (show zT 4 from ((zk_99_zs1_99_f00_X9_sumsOf_44, (((0, 456, bg_61), zk_99_zs1_99_f00_X9_sumsOf_56), ((0, 66, bg_5), zk_99_zs1_99_f00_X9_sumsOf_0))), zk_99_zs1_99_f00_X9_sumsOf_45), (11, (0, 0)))
noncomputable def h1_X9_sumsOf_94 : zH 4 := (show zT 4 from ((zk_99_zs1_99_f00_X9_sumsOf_44, (((0, 456, bg_61), zk_99_zs1_99_f00_X9_sumsOf_56), ((0, 66, bg_5), zk_99_zs1_99_f00_X9_sumsOf_0))), zk_99_zs1_99_f00_X9_sumsOf_45), (11, (0, 0)))
theorem ev_X9_sumsOf_94 : f_X9_sumsOfa [zR 1, zR 2] h0_X9_sumsOf_94 (zrk (zU) h1_X9_sumsOf_94) = true := by decide +kernel
noncomputable def g_X9_sumsOf_94 {d : Nat} : List zV → zH d → zP d → Bool := zsmyM [(0, 0), (0, 1), (1, 21), (1, 20), (1, 22), (1, 33), (1, 3), (1, 31), (1, 32), (1, 26), (1, 27)] [zR 1, zR 2] h0_X9_sumsOf_94 (zU) h1_X9_sumsOf_94
theorem mg_X9_sumsOf_94 {d : Nat} : zMet (d := d) X_X9_sumsOf yX9_sumsOf 17 g_X9_sumsOf_94 := zMet_smM m_X9_sumsOfa ev_X9_sumsOf_94
noncomputable def h0_X9_sumsOf_95 : zH 4 := (show zT 4 from ((zk_99_zs1_99_f00_X9_sumsOf_44, (((0, 456, bg_61), zk_99_zs1_99_f00_X9_sumsOf_37), ((0, 66, bg_5), zk_99_zs1_99_f00_X9_sumsOf_0))), zk_99_zs1_99_f00_X9_sumsOf_45), (11, (0, 0)))
noncomputable def h1_X9_sumsOf_95 : zH 4 := (show zT 4 from ((zk_99_zs1_99_f00_X9_sumsOf_44, (((0, 456, bg_61), zk_99_zs1_99_f00_X9_sumsOf_37), ((0, 66, bg_5), zk_99_zs1_99_f00_X9_sumsOf_0))), zk_99_zs1_99_f00_X9_sumsOf_45), (11, (0, 0)))
theorem ev_X9_sumsOf_95 : f_X9_sumsOfa [zR 1, zR 2] h0_X9_sumsOf_95 (zrk (zU) h1_X9_sumsOf_95) = true := by decide +kernel
noncomputable def g_X9_sumsOf_95 {d : Nat} : List zV → zH d → zP d → Bool := zsmyM [(0, 0), (0, 1), (1, 21), (1, 20), (1, 22), (1, 33), (1, 3), (1, 31), (1, 32), (1, 26), (1, 27)] [zR 1, zR 2] h0_X9_sumsOf_95 (zU) h1_X9_sumsOf_95
theorem mg_X9_sumsOf_95 {d : Nat} : zMet (d := d) X_X9_sumsOf yX9_sumsOf 17 g_X9_sumsOf_95 := zMet_smM m_X9_sumsOfa ev_X9_sumsOf_95
noncomputable def h0_X9_sumsOf_96 : zH 4 := (show zT 4 from ((zk_99_zs1_99_f00_X9_sumsOf_46, (((0, 456, bg_64), zk_99_zs1_99_f00_X9_sumsOf_50), ((0, 66, bg_5), zk_99_zs1_99_f00_X9_sumsOf_0))), zk_99_zs1_99_f00_X9_sumsOf_47), (11, (0, 0)))
noncomputable def h1_X9_sumsOf_96 : zH 4 := (show zT 4 from ((zk_99_zs1_99_f00_X9_sumsOf_46, (((0, 456, bg_64), zk_99_zs1_99_f00_X9_sumsOf_50), ((0, 66, bg_5), zk_99_zs1_99_f00_X9_sumsOf_0))), zk_99_zs1_99_f00_X9_sumsOf_47), (11, (0, 0)))
theorem ev_X9_sumsOf_96 : f_X9_sumsOfa [zR 1, zR 2] h0_X9_sumsOf_96 (zrk (zU) h1_X9_sumsOf_96) = true := by decide +kernel
noncomputable def g_X9_sumsOf_96 {d : Nat} : List zV → zH d → zP d → Bool := zsmyM [(0, 0), (0, 1), (1, 21), (1, 20), (1, 22), (1, 33), (1, 3), (1, 31), (1, 32), (1, 26), (1, 27)] [zR 1, zR 2] h0_X9_sumsOf_96 (zU) h1_X9_sumsOf_96
theorem mg_X9_sumsOf_96 {d : Nat} : zMet (d := d) X_X9_sumsOf yX9_sumsOf 17 g_X9_sumsOf_96 := zMet_smM m_X9_sumsOfa ev_X9_sumsOf_96
noncomputable def h0_X9_sumsOf_97 : zH 4 := (show zT 4 from ((zk_99_zs1_99_f00_X9_sumsOf_46, (((0, 456, bg_64), zk_99_zs1_99_f00_X9_sumsOf_51), ((0, 66, bg_5), zk_99_zs1_99_f00_X9_sumsOf_0))), zk_99_zs1_99_f00_X9_sumsOf_47), (11, (0, 0)))
noncomputable def h1_X9_sumsOf_97 : zH 4 := (show zT 4 from ((zk_99_zs1_99_f00_X9_sumsOf_46, (((0, 456, bg_64), zk_99_zs1_99_f00_X9_sumsOf_51), ((0, 66, bg_5), zk_99_zs1_99_f00_X9_sumsOf_0))), zk_99_zs1_99_f00_X9_sumsOf_47), (11, (0, 0)))
theorem ev_X9_sumsOf_97 : f_X9_sumsOfa [zR 1, zR 2] h0_X9_sumsOf_97 (zrk (zU) h1_X9_sumsOf_97) = true := by decide +kernel
noncomputable def g_X9_sumsOf_97 {d : Nat} : List zV → zH d → zP d → Bool := zsmyM [(0, 0), (0, 1), (1, 21), (1, 20), (1, 22), (1, 33), (1, 3), (1, 31), (1, 32), (1, 26), (1, 27)] [zR 1, zR 2] h0_X9_sumsOf_97 (zU) h1_X9_sumsOf_97
theorem mg_X9_sumsOf_97 {d : Nat} : zMet (d := d) X_X9_sumsOf yX9_sumsOf 17 g_X9_sumsOf_97 := zMet_smM m_X9_sumsOfa ev_X9_sumsOf_97
noncomputable def h0_X9_sumsOf_98 : zH 4 := (show zT 4 from ((zk_99_zs1_99_f00_X9_sumsOf_46, (((0, 456, bg_64), zk_99_zs1_99_f00_X9_sumsOf_54), ((0, 66, bg_5), zk_99_zs1_99_f00_X9_sumsOf_0))), zk_99_zs1_99_f00_X9_sumsOf_47), (11, (0, 0)))
noncomputable def h1_X9_sumsOf_98 : zH 4 := (show zT 4 from ((zk_99_zs1_99_f00_X9_sumsOf_46, (((0, 456, bg_64), zk_99_zs1_99_f00_X9_sumsOf_54), ((0, 66, bg_5), zk_99_zs1_99_f00_X9_sumsOf_0))), zk_99_zs1_99_f00_X9_sumsOf_47), (11, (0, 0)))
theorem ev_X9_sumsOf_98 : f_X9_sumsOfa [zR 1, zR 2] h0_X9_sumsOf_98 (zrk (zU) h1_X9_sumsOf_98) = true := by decide +kernel
noncomputable def g_X9_sumsOf_98 {d : Nat} : List zV → zH d → zP d → Bool := zsmyM [(0, 0), (0, 1), (1, 21), (1, 20), (1, 22), (1, 33), (1, 3), (1, 31), (1, 32), (1, 26), (1, 27)] [zR 1, zR 2] h0_X9_sumsOf_98 (zU) h1_X9_sumsOf_98
theorem mg_X9_sumsOf_98 {d : Nat} : zMet (d := d) X_X9_sumsOf yX9_sumsOf 17 g_X9_sumsOf_98 := zMet_smM m_X9_sumsOfa ev_X9_sumsOf_98
noncomputable def h0_X9_sumsOf_99 : zH 4 := (show zT 4 from ((zk_99_zs1_99_f00_X9_sumsOf_46, (((0, 456, bg_64), zk_99_zs1_99_f00_X9_sumsOf_55), ((0, 66, bg_5), zk_99_zs1_99_f00_X9_sumsOf_0))), zk_99_zs1_99_f00_X9_sumsOf_47), (11, (0, 0)))
noncomputable def h1_X9_sumsOf_99 : zH 4 := (show zT 4 from ((zk_99_zs1_99_f00_X9_sumsOf_46, (((0, 456, bg_64), zk_99_zs1_99_f00_X9_sumsOf_55), ((0, 66, bg_5), zk_99_zs1_99_f00_X9_sumsOf_0))), zk_99_zs1_99_f00_X9_sumsOf_47), (11, (0, 0)))
theorem ev_X9_sumsOf_99 : f_X9_sumsOfa [zR 1, zR 2] h0_X9_sumsOf_99 (zrk (zU) h1_X9_sumsOf_99) = true := by decide +kernel
noncomputable def g_X9_sumsOf_99 {d : Nat} : List zV → zH d → zP d → Bool := zsmyM [(0, 0), (0, 1), (1, 21), (1, 20), (1, 22), (1, 33), (1, 3), (1, 31), (1, 32), (1, 26), (1, 27)] [zR 1, zR 2] h0_X9_sumsOf_99 (zU) h1_X9_sumsOf_99
theorem mg_X9_sumsOf_99 {d : Nat} : zMet (d := d) X_X9_sumsOf yX9_sumsOf 17 g_X9_sumsOf_99 := zMet_smM m_X9_sumsOfa ev_X9_sumsOf_99
noncomputable def h0_X9_sumsOf_100 : zH 4 := (show zT 4 from ((zk_99_zs1_99_f00_X9_sumsOf_46, (((0, 456, bg_64), zk_99_zs1_99_f00_X9_sumsOf_56), ((0, 66, bg_5), zk_99_zs1_99_f00_X9_sumsOf_0))), zk_99_zs1_99_f00_X9_sumsOf_47), (11, (0, 0)))
noncomputable def h1_X9_sumsOf_100 : zH 4 := (show zT 4 from ((zk_99_zs1_99_f00_X9_sumsOf_46, (((0, 456, bg_64), zk_99_zs1_99_f00_X9_sumsOf_56), ((0, 66, bg_5), zk_99_zs1_99_f00_X9_sumsOf_0))), zk_99_zs1_99_f00_X9_sumsOf_47), (11, (0, 0)))
theorem ev_X9_sumsOf_100 : f_X9_sumsOfa [zR 1, zR 2] h0_X9_sumsOf_100 (zrk (zU) h1_X9_sumsOf_100) = true := by decide +kernel
noncomputable def g_X9_sumsOf_100 {d : Nat} : List zV → zH d → zP d → Bool := zsmyM [(0, 0), (0, 1), (1, 21), (1, 20), (1, 22), (1, 33), (1, 3), (1, 31), (1, 32), (1, 26), (1, 27)] [zR 1, zR 2] h0_X9_sumsOf_100 (zU) h1_X9_sumsOf_100
theorem mg_X9_sumsOf_100 {d : Nat} : zMet (d := d) X_X9_sumsOf yX9_sumsOf 17 g_X9_sumsOf_100 := zMet_smM m_X9_sumsOfa ev_X9_sumsOf_100
noncomputable def h0_X9_sumsOf_101 : zH 4 := (show zT 4 from ((zk_99_zs1_99_f00_X9_sumsOf_46, (((0, 456, bg_64), zk_99_zs1_99_f00_X9_sumsOf_37), ((0, 66, bg_5), zk_99_zs1_99_f00_X9_sumsOf_0))), zk_99_zs1_99_f00_X9_sumsOf_47), (11, (0, 0)))
noncomputable def h1_X9_sumsOf_101 : zH 4 := (show zT 4 from ((zk_99_zs1_99_f00_X9_sumsOf_46, (((0, 456, bg_64), zk_99_zs1_99_f00_X9_sumsOf_37), ((0, 66, bg_5), zk_99_zs1_99_f00_X9_sumsOf_0))), zk_99_zs1_99_f00_X9_sumsOf_47), (11, (0, 0)))
theorem ev_X9_sumsOf_101 : f_X9_sumsOfa [zR 1, zR 2] h0_X9_sumsOf_101 (zrk (zU) h1_X9_sumsOf_101) = true := by decide +kernel
noncomputable def g_X9_sumsOf_101 {d : Nat} : List zV → zH d → zP d → Bool := zsmyM [(0, 0), (0, 1), (1, 21), (1, 20), (1, 22), (1, 33), (1, 3), (1, 31), (1, 32), (1, 26), (1, 27)] [zR 1, zR 2] h0_X9_sumsOf_101 (zU) h1_X9_sumsOf_101
theorem mg_X9_sumsOf_101 {d : Nat} : zMet (d := d) X_X9_sumsOf yX9_sumsOf 17 g_X9_sumsOf_101 := zMet_smM m_X9_sumsOfa ev_X9_sumsOf_101
noncomputable def h0_X9_sumsOf_102 : zH 4 := (show zT 4 from ((zk_99_zs1_99_f00_X9_sumsOf_46, (((0, 456, bg_64), zk_99_zs1_99_f00_X9_sumsOf_52), ((0, 66, bg_5), zk_99_zs1_99_f00_X9_sumsOf_0))), zk_99_zs1_99_f00_X9_sumsOf_47), (11, (0, 0)))
noncomputable def h1_X9_sumsOf_102 : zH 4 := (show zT 4 from ((zk_99_zs1_99_f00_X9_sumsOf_46, (((0, 456, bg_64), zk_99_zs1_99_f00_X9_sumsOf_52), ((0, 66, bg_5), zk_99_zs1_99_f00_X9_sumsOf_0))), zk_99_zs1_99_f00_X9_sumsOf_47), (11, (0, 0)))
theorem ev_X9_sumsOf_102 : f_X9_sumsOfa [zR 1, zR 2] h0_X9_sumsOf_102 (zrk (zU) h1_X9_sumsOf_102) = true := by decide +kernel
noncomputable def g_X9_sumsOf_102 {d : Nat} : List zV → zH d → zP d → Bool := zsmyM [(0, 0), (0, 1), (1, 21), (1, 20), (1, 22), (1, 33), (1, 3), (1, 31), (1, 32), (1, 26), (1, 27)] [zR 1, zR 2] h0_X9_sumsOf_102 (zU) h1_X9_sumsOf_102
theorem mg_X9_sumsOf_102 {d : Nat} : zMet (d := d) X_X9_sumsOf yX9_sumsOf 17 g_X9_sumsOf_102 := zMet_smM m_X9_sumsOfa ev_X9_sumsOf_102
noncomputable def h0_X9_sumsOf_103 : zH 4 := (show zT 4 from ((zk_99_zs1_99_f00_X9_sumsOf_46, (((0, 456, bg_64), zk_99_zs1_99_f00_X9_sumsOf_53), ((0, 66, bg_5), zk_99_zs1_99_f00_X9_sumsOf_0))), zk_99_zs1_99_f00_X9_sumsOf_47), (11, (0, 0)))
noncomputable def h1_X9_sumsOf_103 : zH 4 := (show zT 4 from ((zk_99_zs1_99_f00_X9_sumsOf_46, (((0, 456, bg_64), zk_99_zs1_99_f00_X9_sumsOf_53), ((0, 66, bg_5), zk_99_zs1_99_f00_X9_sumsOf_0))), zk_99_zs1_99_f00_X9_sumsOf_47), (11, (0, 0)))
theorem ev_X9_sumsOf_103 : f_X9_sumsOfa [zR 1, zR 2] h0_X9_sumsOf_103 (zrk (zU) h1_X9_sumsOf_103) = true := by decide +kernel
noncomputable def g_X9_sumsOf_103 {d : Nat} : List zV → zH d → zP d → Bool := zsmyM [(0, 0), (0, 1), (1, 21), (1, 20), (1, 22), (1, 33), (1, 3), (1, 31), (1, 32), (1, 26), (1, 27)] [zR 1, zR 2] h0_X9_sumsOf_103 (zU) h1_X9_sumsOf_103
theorem mg_X9_sumsOf_103 {d : Nat} : zMet (d := d) X_X9_sumsOf yX9_sumsOf 17 g_X9_sumsOf_103 := zMet_smM m_X9_sumsOfa ev_X9_sumsOf_103
noncomputable def h0_X9_sumsOf_104 : zH 4 := (show zT 4 from ((zk_99_zs1_99_f00_X9_sumsOf_46, (((0, 456, bg_64), zk_99_zs1_99_f00_X9_sumsOf_36), ((0, 66, bg_5), zk_99_zs1_99_f00_X9_sumsOf_0))), zk_99_zs1_99_f00_X9_sumsOf_47), (11, (0, 0)))
noncomputable def h1_X9_sumsOf_104 : zH 4 := (show zT 4 from ((zk_99_zs1_99_f00_X9_sumsOf_46, (((0, 456, bg_64), zk_99_zs1_99_f00_X9_sumsOf_36), ((0, 66, bg_5), zk_99_zs1_99_f00_X9_sumsOf_0))), zk_99_zs1_99_f00_X9_sumsOf_47), (11, (0, 0)))
theorem ev_X9_sumsOf_104 : f_X9_sumsOfa [zR 1, zR 2] h0_X9_sumsOf_104 (zrk (zU) h1_X9_sumsOf_104) = true := by decide +kernel
noncomputable def g_X9_sumsOf_104 {d : Nat} : List zV → zH d → zP d → Bool := zsmyM [(0, 0), (0, 1), (1, 21), (1, 20), (1, 22), (1, 33), (1, 3), (1, 31), (1, 32), (1, 26), (1, 27)] [zR 1, zR 2] h0_X9_sumsOf_104 (zU) h1_X9_sumsOf_104
theorem mg_X9_sumsOf_104 {d : Nat} : zMet (d := d) X_X9_sumsOf yX9_sumsOf 17 g_X9_sumsOf_104 := zMet_smM m_X9_sumsOfa ev_X9_sumsOf_104
noncomputable def h0_X9_sumsOf_105 : zH 4 := (show zT 4 from ((zk_99_zs1_99_f00_X9_sumsOf_48, (((0, 456, bg_67), zk_99_zs1_99_f00_X9_sumsOf_36), ((0, 66, bg_5), zk_99_zs1_99_f00_X9_sumsOf_0))), zk_99_zs1_99_f00_X9_sumsOf_49), (11, (0, 0)))
noncomputable def h1_X9_sumsOf_105 : zH 4 := (show zT 4 from ((zk_99_zs1_99_f00_X9_sumsOf_48, (((0, 456, bg_67), zk_99_zs1_99_f00_X9_sumsOf_36), ((0, 66, bg_5), zk_99_zs1_99_f00_X9_sumsOf_0))), zk_99_zs1_99_f00_X9_sumsOf_49), (11, (0, 0)))
theorem ev_X9_sumsOf_105 : f_X9_sumsOfa [zR 1, zR 2] h0_X9_sumsOf_105 (zrk (zU) h1_X9_sumsOf_105) = true := by decide +kernel
noncomputable def g_X9_sumsOf_105 {d : Nat} : List zV → zH d → zP d → Bool := zsmyM [(0, 0), (0, 1), (1, 21), (1, 20), (1, 22), (1, 33), (1, 3), (1, 31), (1, 32), (1, 26), (1, 27)] [zR 1, zR 2] h0_X9_sumsOf_105 (zU) h1_X9_sumsOf_105
theorem mg_X9_sumsOf_105 {d : Nat} : zMet (d := d) X_X9_sumsOf yX9_sumsOf 17 g_X9_sumsOf_105 := zMet_smM m_X9_sumsOfa ev_X9_sumsOf_105
noncomputable def h0_X9_sumsOf_106 : zH 4 := (show zT 4 from ((zk_99_zs1_99_f00_X9_sumsOf_48, (((0, 456, bg_67), zk_99_zs1_99_f00_X9_sumsOf_50), ((0, 66, bg_5), zk_99_zs1_99_f00_X9_sumsOf_0))), zk_99_zs1_99_f00_X9_sumsOf_49), (11, (0, 0)))
noncomputable def h1_X9_sumsOf_106 : zH 4 := (show zT 4 from ((zk_99_zs1_99_f00_X9_sumsOf_48, (((0, 456, bg_67), zk_99_zs1_99_f00_X9_sumsOf_50), ((0, 66, bg_5), zk_99_zs1_99_f00_X9_sumsOf_0))), zk_99_zs1_99_f00_X9_sumsOf_49), (11, (0, 0)))
theorem ev_X9_sumsOf_106 : f_X9_sumsOfa [zR 1, zR 2] h0_X9_sumsOf_106 (zrk (zU) h1_X9_sumsOf_106) = true := by decide +kernel
noncomputable def g_X9_sumsOf_106 {d : Nat} : List zV → zH d → zP d → Bool := zsmyM [(0, 0), (0, 1), (1, 21), (1, 20), (1, 22), (1, 33), (1, 3), (1, 31), (1, 32), (1, 26), (1, 27)] [zR 1, zR 2] h0_X9_sumsOf_106 (zU) h1_X9_sumsOf_106
theorem mg_X9_sumsOf_106 {d : Nat} : zMet (d := d) X_X9_sumsOf yX9_sumsOf 17 g_X9_sumsOf_106 := zMet_smM m_X9_sumsOfa ev_X9_sumsOf_106
noncomputable def h0_X9_sumsOf_107 : zH 4 := (show zT 4 from ((zk_99_zs1_99_f00_X9_sumsOf_48, (((0, 456, bg_67), zk_99_zs1_99_f00_X9_sumsOf_51), ((0, 66, bg_5), zk_99_zs1_99_f00_X9_sumsOf_0))), zk_99_zs1_99_f00_X9_sumsOf_49), (11, (0, 0)))
noncomputable def h1_X9_sumsOf_107 : zH 4 := (show zT 4 from ((zk_99_zs1_99_f00_X9_sumsOf_48, (((0, 456, bg_67), zk_99_zs1_99_f00_X9_sumsOf_51), ((0, 66, bg_5), zk_99_zs1_99_f00_X9_sumsOf_0))), zk_99_zs1_99_f00_X9_sumsOf_49), (11, (0, 0)))
theorem ev_X9_sumsOf_107 : f_X9_sumsOfa [zR 1, zR 2] h0_X9_sumsOf_107 (zrk (zU) h1_X9_sumsOf_107) = true := by decide +kernel
noncomputable def g_X9_sumsOf_107 {d : Nat} : List zV → zH d → zP d → Bool := zsmyM [(0, 0), (0, 1), (1, 21), (1, 20), (1, 22), (1, 33), (1, 3), (1, 31), (1, 32), (1, 26), (1, 27)] [zR 1, zR 2] h0_X9_sumsOf_107 (zU) h1_X9_sumsOf_107
theorem mg_X9_sumsOf_107 {d : Nat} : zMet (d := d) X_X9_sumsOf yX9_sumsOf 17 g_X9_sumsOf_107 := zMet_smM m_X9_sumsOfa ev_X9_sumsOf_107
noncomputable def h0_X9_sumsOf_108 : zH 4 := (show zT 4 from ((zk_99_zs1_99_f00_X9_sumsOf_48, (((0, 456, bg_67), zk_99_zs1_99_f00_X9_sumsOf_54), ((0, 66, bg_5), zk_99_zs1_99_f00_X9_sumsOf_0))), zk_99_zs1_99_f00_X9_sumsOf_49), (11, (0, 0)))
noncomputable def h1_X9_sumsOf_108 : zH 4 := (show zT 4 from ((zk_99_zs1_99_f00_X9_sumsOf_48, (((0, 456, bg_67), zk_99_zs1_99_f00_X9_sumsOf_54), ((0, 66, bg_5), zk_99_zs1_99_f00_X9_sumsOf_0))), zk_99_zs1_99_f00_X9_sumsOf_49), (11, (0, 0)))
theorem ev_X9_sumsOf_108 : f_X9_sumsOfa [zR 1, zR 2] h0_X9_sumsOf_108 (zrk (zU) h1_X9_sumsOf_108) = true := by decide +kernel
noncomputable def g_X9_sumsOf_108 {d : Nat} : List zV → zH d → zP d → Bool := zsmyM [(0, 0), (0, 1), (1, 21), (1, 20), (1, 22), (1, 33), (1, 3), (1, 31), (1, 32), (1, 26), (1, 27)] [zR 1, zR 2] h0_X9_sumsOf_108 (zU) h1_X9_sumsOf_108
theorem mg_X9_sumsOf_108 {d : Nat} : zMet (d := d) X_X9_sumsOf yX9_sumsOf 17 g_X9_sumsOf_108 := zMet_smM m_X9_sumsOfa ev_X9_sumsOf_108
noncomputable def h0_X9_sumsOf_109 : zH 4 := (show zT 4 from ((zk_99_zs1_99_f00_X9_sumsOf_48, (((0, 456, bg_67), zk_99_zs1_99_f00_X9_sumsOf_55), ((0, 66, bg_5), zk_99_zs1_99_f00_X9_sumsOf_0))), zk_99_zs1_99_f00_X9_sumsOf_49), (11, (0, 0)))
noncomputable def h1_X9_sumsOf_109 : zH 4 := (show zT 4 from ((zk_99_zs1_99_f00_X9_sumsOf_48, (((0, 456, bg_67), zk_99_zs1_99_f00_X9_sumsOf_55), ((0, 66, bg_5), zk_99_zs1_99_f00_X9_sumsOf_0))), zk_99_zs1_99_f00_X9_sumsOf_49), (11, (0, 0)))
theorem ev_X9_sumsOf_109 : f_X9_sumsOfa [zR 1, zR 2] h0_X9_sumsOf_109 (zrk (zU) h1_X9_sumsOf_109) = true := by decide +kernel
noncomputable def g_X9_sumsOf_109 {d : Nat} : List zV → zH d → zP d → Bool := zsmyM [(0, 0), (0, 1), (1, 21), (1, 20), (1, 22), (1, 33), (1, 3), (1, 31), (1, 32), (1, 26), (1, 27)] [zR 1, zR 2] h0_X9_sumsOf_109 (zU) h1_X9_sumsOf_109
theorem mg_X9_sumsOf_109 {d : Nat} : zMet (d := d) X_X9_sumsOf yX9_sumsOf 17 g_X9_sumsOf_109 := zMet_smM m_X9_sumsOfa ev_X9_sumsOf_109
noncomputable def h0_X9_sumsOf_110 : zH 4 := (show zT 4 from ((zk_99_zs1_99_f00_X9_sumsOf_48, (((0, 456, bg_67), zk_99_zs1_99_f00_X9_sumsOf_56), ((0, 66, bg_5), zk_99_zs1_99_f00_X9_sumsOf_0))), zk_99_zs1_99_f00_X9_sumsOf_49), (11, (0, 0)))
noncomputable def h1_X9_sumsOf_110 : zH 4 := (show zT 4 from ((zk_99_zs1_99_f00_X9_sumsOf_48, (((0, 456, bg_67), zk_99_zs1_99_f00_X9_sumsOf_56), ((0, 66, bg_5), zk_99_zs1_99_f00_X9_sumsOf_0))), zk_99_zs1_99_f00_X9_sumsOf_49), (11, (0, 0)))
theorem ev_X9_sumsOf_110 : f_X9_sumsOfa [zR 1, zR 2] h0_X9_sumsOf_110 (zrk (zU) h1_X9_sumsOf_110) = true := by decide +kernel
noncomputable def g_X9_sumsOf_110 {d : Nat} : List zV → zH d → zP d → Bool := zsmyM [(0, 0), (0, 1), (1, 21), (1, 20), (1, 22), (1, 33), (1, 3), (1, 31), (1, 32), (1, 26), (1, 27)] [zR 1, zR 2] h0_X9_sumsOf_110 (zU) h1_X9_sumsOf_110
theorem mg_X9_sumsOf_110 {d : Nat} : zMet (d := d) X_X9_sumsOf yX9_sumsOf 17 g_X9_sumsOf_110 := zMet_smM m_X9_sumsOfa ev_X9_sumsOf_110
noncomputable def h0_X9_sumsOf_111 : zH 4 := (show zT 4 from ((zk_99_zs1_99_f00_X9_sumsOf_48, (((0, 456, bg_67), zk_99_zs1_99_f00_X9_sumsOf_37), ((0, 66, bg_5), zk_99_zs1_99_f00_X9_sumsOf_0))), zk_99_zs1_99_f00_X9_sumsOf_49), (11, (0, 0)))
noncomputable def h1_X9_sumsOf_111 : zH 4 := (show zT 4 from ((zk_99_zs1_99_f00_X9_sumsOf_48, (((0, 456, bg_67), zk_99_zs1_99_f00_X9_sumsOf_37), ((0, 66, bg_5), zk_99_zs1_99_f00_X9_sumsOf_0))), zk_99_zs1_99_f00_X9_sumsOf_49), (11, (0, 0)))
theorem ev_X9_sumsOf_111 : f_X9_sumsOfa [zR 1, zR 2] h0_X9_sumsOf_111 (zrk (zU) h1_X9_sumsOf_111) = true := by decide +kernel
noncomputable def g_X9_sumsOf_111 {d : Nat} : List zV → zH d → zP d → Bool := zsmyM [(0, 0), (0, 1), (1, 21), (1, 20), (1, 22), (1, 33), (1, 3), (1, 31), (1, 32), (1, 26), (1, 27)] [zR 1, zR 2] h0_X9_sumsOf_111 (zU) h1_X9_sumsOf_111
theorem mg_X9_sumsOf_111 {d : Nat} : zMet (d := d) X_X9_sumsOf yX9_sumsOf 17 g_X9_sumsOf_111 := zMet_smM m_X9_sumsOfa ev_X9_sumsOf_111
noncomputable def h0_X9_sumsOf_112 : zH 4 := (show zT 4 from ((zk_99_zs1_99_f00_X9_sumsOf_48, (((0, 456, bg_67), zk_99_zs1_99_f00_X9_sumsOf_52), ((0, 66, bg_5), zk_99_zs1_99_f00_X9_sumsOf_0))), zk_99_zs1_99_f00_X9_sumsOf_49), (11, (0, 0)))
noncomputable def h1_X9_sumsOf_112 : zH 4 := (show zT 4 from ((zk_99_zs1_99_f00_X9_sumsOf_48, (((0, 456, bg_67), zk_99_zs1_99_f00_X9_sumsOf_52), ((0, 66, bg_5), zk_99_zs1_99_f00_X9_sumsOf_0))), zk_99_zs1_99_f00_X9_sumsOf_49), (11, (0, 0)))
theorem ev_X9_sumsOf_112 : f_X9_sumsOfa [zR 1, zR 2] h0_X9_sumsOf_112 (zrk (zU) h1_X9_sumsOf_112) = true := by decide +kernel
noncomputable def g_X9_sumsOf_112 {d : Nat} : List zV → zH d → zP d → Bool := zsmyM [(0, 0), (0, 1), (1, 21), (1, 20), (1, 22), (1, 33), (1, 3), (1, 31), (1, 32), (1, 26), (1, 27)] [zR 1, zR 2] h0_X9_sumsOf_112 (zU) h1_X9_sumsOf_112
theorem mg_X9_sumsOf_112 {d : Nat} : zMet (d := d) X_X9_sumsOf yX9_sumsOf 17 g_X9_sumsOf_112 := zMet_smM m_X9_sumsOfa ev_X9_sumsOf_112
noncomputable def h0_X9_sumsOf_113 : zH 4 := (show zT 4 from ((zk_99_zs1_99_f00_X9_sumsOf_48, (((0, 456, bg_67), zk_99_zs1_99_f00_X9_sumsOf_53), ((0, 66, bg_5), zk_99_zs1_99_f00_X9_sumsOf_0))), zk_99_zs1_99_f00_X9_sumsOf_49), (11, (0, 0)))
noncomputable def h1_X9_sumsOf_113 : zH 4 := (show zT 4 from ((zk_99_zs1_99_f00_X9_sumsOf_48, (((0, 456, bg_67), zk_99_zs1_99_f00_X9_sumsOf_53), ((0, 66, bg_5), zk_99_zs1_99_f00_X9_sumsOf_0))), zk_99_zs1_99_f00_X9_sumsOf_49), (11, (0, 0)))
theorem ev_X9_sumsOf_113 : f_X9_sumsOfa [zR 1, zR 2] h0_X9_sumsOf_113 (zrk (zU) h1_X9_sumsOf_113) = true := by decide +kernel
noncomputable def g_X9_sumsOf_113 {d : Nat} : List zV → zH d → zP d → Bool := zsmyM [(0, 0), (0, 1), (1, 21), (1, 20), (1, 22), (1, 33), (1, 3), (1, 31), (1, 32), (1, 26), (1, 27)] [zR 1, zR 2] h0_X9_sumsOf_113 (zU) h1_X9_sumsOf_113
theorem mg_X9_sumsOf_113 {d : Nat} : zMet (d := d) X_X9_sumsOf yX9_sumsOf 17 g_X9_sumsOf_113 := zMet_smM m_X9_sumsOfa ev_X9_sumsOf_113
noncomputable def zk_99_zs1_99_f00_X9_sumsOf_57 : zT 2 := @Prod.mk (zT 1) (zT 1) ((25, 63, bg_171), (0, 12000, zun 40 12000 4294967296)) ((0, 11, bg_8), (0, 11, bg_131))
noncomputable def zk_99_zs1_99_f00_X9_sumsOf_58 : zC := (0, 7, 0x6000000000500000000040000000003000000000200000000010100000000)
noncomputable def zk_99_zs1_99_f00_X9_sumsOf_59 : zT 3 := @Prod.mk (zT 2) (zT 2) ((zk_99_zs1_99_f00_X9_sumsOf_1, (10, 46656, 6)), ((11, 720, 6), (0, 0, 0))) zO2
noncomputable def h0_X9_sumsOf_114 : zH 4 := (show zT 4 from ((zk_99_zs1_99_f00_X9_sumsOf_57, (((0, 456, bg_70), zk_99_zs1_99_f00_X9_sumsOf_58), ((0, 66, bg_6), zk_99_zs1_99_f00_X9_sumsOf_0))), zk_99_zs1_99_f00_X9_sumsOf_59), (11, (0, 0)))
noncomputable def h1_X9_sumsOf_114 : zH 4 := (show zT 4 from ((zk_99_zs1_99_f00_X9_sumsOf_57, (((0, 456, bg_70), zk_99_zs1_99_f00_X9_sumsOf_58), ((0, 66, bg_6), zk_99_zs1_99_f00_X9_sumsOf_0))), zk_99_zs1_99_f00_X9_sumsOf_59), (11, (0, 0)))
theorem ev_X9_sumsOf_114 : f_X9_sumsOfa [zR 1, zR 2] h0_X9_sumsOf_114 (zrk (zU) h1_X9_sumsOf_114) = true := by decide +kernel
noncomputable def g_X9_sumsOf_114 {d : Nat} : List zV → zH d → zP d → Bool := zsmyM [(0, 0), (0, 1), (1, 21), (1, 20), (1, 22), (1, 33), (1, 3), (1, 31), (1, 32), (1, 26), (1, 27)] [zR 1, zR 2] h0_X9_sumsOf_114 (zU) h1_X9_sumsOf_114
theorem mg_X9_sumsOf_114 {d : Nat} : zMet (d := d) X_X9_sumsOf yX9_sumsOf 17 g_X9_sumsOf_114 := zMet_smM m_X9_sumsOfa ev_X9_sumsOf_114
noncomputable def zk_99_zs1_99_f00_X9_sumsOf_60 : zC := (0, 7, 0x6000000000100000000050000000004000000000300000000020100000000)
noncomputable def h0_X9_sumsOf_115 : zH 4 := (show zT 4 from ((zk_99_zs1_99_f00_X9_sumsOf_57, (((0, 456, bg_70), zk_99_zs1_99_f00_X9_sumsOf_60), ((0, 66, bg_6), zk_99_zs1_99_f00_X9_sumsOf_0))), zk_99_zs1_99_f00_X9_sumsOf_59), (11, (0, 0)))
noncomputable def h1_X9_sumsOf_115 : zH 4 := (show zT 4 from ((zk_99_zs1_99_f00_X9_sumsOf_57, (((0, 456, bg_70), zk_99_zs1_99_f00_X9_sumsOf_60), ((0, 66, bg_6), zk_99_zs1_99_f00_X9_sumsOf_0))), zk_99_zs1_99_f00_X9_sumsOf_59), (11, (0, 0)))
theorem ev_X9_sumsOf_115 : f_X9_sumsOfa [zR 1, zR 2] h0_X9_sumsOf_115 (zrk (zU) h1_X9_sumsOf_115) = true := by decide +kernel
noncomputable def g_X9_sumsOf_115 {d : Nat} : List zV → zH d → zP d → Bool := zsmyM [(0, 0), (0, 1), (1, 21), (1, 20), (1, 22), (1, 33), (1, 3), (1, 31), (1, 32), (1, 26), (1, 27)] [zR 1, zR 2] h0_X9_sumsOf_115 (zU) h1_X9_sumsOf_115
theorem mg_X9_sumsOf_115 {d : Nat} : zMet (d := d) X_X9_sumsOf yX9_sumsOf 17 g_X9_sumsOf_115 := zMet_smM m_X9_sumsOfa ev_X9_sumsOf_115
noncomputable def zk_99_zs1_99_f00_X9_sumsOf_61 : zC := (0, 7, 0x4000000000600000000050000000001000000000300000000020100000000)
noncomputable def h0_X9_sumsOf_116 : zH 4 := (show zT 4 from ((zk_99_zs1_99_f00_X9_sumsOf_57, (((0, 456, bg_70), zk_99_zs1_99_f00_X9_sumsOf_61), ((0, 66, bg_6), zk_99_zs1_99_f00_X9_sumsOf_0))), zk_99_zs1_99_f00_X9_sumsOf_59), (11, (0, 0)))
noncomputable def h1_X9_sumsOf_116 : zH 4 := (show zT 4 from ((zk_99_zs1_99_f00_X9_sumsOf_57, (((0, 456, bg_70), zk_99_zs1_99_f00_X9_sumsOf_61), ((0, 66, bg_6), zk_99_zs1_99_f00_X9_sumsOf_0))), zk_99_zs1_99_f00_X9_sumsOf_59), (11, (0, 0)))
theorem ev_X9_sumsOf_116 : f_X9_sumsOfa [zR 1, zR 2] h0_X9_sumsOf_116 (zrk (zU) h1_X9_sumsOf_116) = true := by decide +kernel
noncomputable def g_X9_sumsOf_116 {d : Nat} : List zV → zH d → zP d → Bool := zsmyM [(0, 0), (0, 1), (1, 21), (1, 20), (1, 22), (1, 33), (1, 3), (1, 31), (1, 32), (1, 26), (1, 27)] [zR 1, zR 2] h0_X9_sumsOf_116 (zU) h1_X9_sumsOf_116
theorem mg_X9_sumsOf_116 {d : Nat} : zMet (d := d) X_X9_sumsOf yX9_sumsOf 17 g_X9_sumsOf_116 := zMet_smM m_X9_sumsOfa ev_X9_sumsOf_116
noncomputable def zk_99_zs1_99_f00_X9_sumsOf_62 : zC := (0, 7, 0x6000000000500000000040000000001000000000300000000020100000000)
noncomputable def h0_X9_sumsOf_117 : zH 4 := (show zT 4 from ((zk_99_zs1_99_f00_X9_sumsOf_57, (((0, 456, bg_70), zk_99_zs1_99_f00_X9_sumsOf_62), ((0, 66, bg_6), zk_99_zs1_99_f00_X9_sumsOf_0))), zk_99_zs1_99_f00_X9_sumsOf_59), (11, (0, 0)))
noncomputable def h1_X9_sumsOf_117 : zH 4 := (show zT 4 from ((zk_99_zs1_99_f00_X9_sumsOf_57, (((0, 456, bg_70), zk_99_zs1_99_f00_X9_sumsOf_62), ((0, 66, bg_6), zk_99_zs1_99_f00_X9_sumsOf_0))), zk_99_zs1_99_f00_X9_sumsOf_59), (11, (0, 0)))
theorem ev_X9_sumsOf_117 : f_X9_sumsOfa [zR 1, zR 2] h0_X9_sumsOf_117 (zrk (zU) h1_X9_sumsOf_117) = true := by decide +kernel
noncomputable def g_X9_sumsOf_117 {d : Nat} : List zV → zH d → zP d → Bool := zsmyM [(0, 0), (0, 1), (1, 21), (1, 20), (1, 22), (1, 33), (1, 3), (1, 31), (1, 32), (1, 26), (1, 27)] [zR 1, zR 2] h0_X9_sumsOf_117 (zU) h1_X9_sumsOf_117
theorem mg_X9_sumsOf_117 {d : Nat} : zMet (d := d) X_X9_sumsOf yX9_sumsOf 17 g_X9_sumsOf_117 := zMet_smM m_X9_sumsOfa ev_X9_sumsOf_117
noncomputable def zk_99_zs1_99_f00_X9_sumsOf_63 : zT 2 := @Prod.mk (zT 1) (zT 1) ((25, 63, bg_172), (0, 12000, zun 40 12000 4294967296)) ((0, 11, bg_173), (0, 11, bg_135))
noncomputable def zk_99_zs1_99_f00_X9_sumsOf_64 : zT 3 := @Prod.mk (zT 2) (zT 2) ((zk_99_zs1_99_f00_X9_sumsOf_1, (10, 46656, 13)), ((11, 720, 13), (0, 0, 0))) zO2
noncomputable def h0_X9_sumsOf_118 : zH 4 := (show zT 4 from ((zk_99_zs1_99_f00_X9_sumsOf_63, (((0, 456, bg_73), zk_99_zs1_99_f00_X9_sumsOf_58), ((0, 66, bg_6), zk_99_zs1_99_f00_X9_sumsOf_0))), zk_99_zs1_99_f00_X9_sumsOf_64), (11, (0, 0)))
noncomputable def h1_X9_sumsOf_118 : zH 4 := (show zT 4 from ((zk_99_zs1_99_f00_X9_sumsOf_63, (((0, 456, bg_73), zk_99_zs1_99_f00_X9_sumsOf_58), ((0, 66, bg_6), zk_99_zs1_99_f00_X9_sumsOf_0))), zk_99_zs1_99_f00_X9_sumsOf_64), (11, (0, 0)))
theorem ev_X9_sumsOf_118 : f_X9_sumsOfa [zR 1, zR 2] h0_X9_sumsOf_118 (zrk (zU) h1_X9_sumsOf_118) = true := by decide +kernel
noncomputable def g_X9_sumsOf_118 {d : Nat} : List zV → zH d → zP d → Bool := zsmyM [(0, 0), (0, 1), (1, 21), (1, 20), (1, 22), (1, 33), (1, 3), (1, 31), (1, 32), (1, 26), (1, 27)] [zR 1, zR 2] h0_X9_sumsOf_118 (zU) h1_X9_sumsOf_118
theorem mg_X9_sumsOf_118 {d : Nat} : zMet (d := d) X_X9_sumsOf yX9_sumsOf 17 g_X9_sumsOf_118 := zMet_smM m_X9_sumsOfa ev_X9_sumsOf_118
noncomputable def h0_X9_sumsOf_119 : zH 4 := (show zT 4 from ((zk_99_zs1_99_f00_X9_sumsOf_63, (((0, 456, bg_73), zk_99_zs1_99_f00_X9_sumsOf_60), ((0, 66, bg_6), zk_99_zs1_99_f00_X9_sumsOf_0))), zk_99_zs1_99_f00_X9_sumsOf_64), (11, (0, 0)))
noncomputable def h1_X9_sumsOf_119 : zH 4 := (show zT 4 from ((zk_99_zs1_99_f00_X9_sumsOf_63, (((0, 456, bg_73), zk_99_zs1_99_f00_X9_sumsOf_60), ((0, 66, bg_6), zk_99_zs1_99_f00_X9_sumsOf_0))), zk_99_zs1_99_f00_X9_sumsOf_64), (11, (0, 0)))
theorem ev_X9_sumsOf_119 : f_X9_sumsOfa [zR 1, zR 2] h0_X9_sumsOf_119 (zrk (zU) h1_X9_sumsOf_119) = true := by decide +kernel
noncomputable def g_X9_sumsOf_119 {d : Nat} : List zV → zH d → zP d → Bool := zsmyM [(0, 0), (0, 1), (1, 21), (1, 20), (1, 22), (1, 33), (1, 3), (1, 31), (1, 32), (1, 26), (1, 27)] [zR 1, zR 2] h0_X9_sumsOf_119 (zU) h1_X9_sumsOf_119
theorem mg_X9_sumsOf_119 {d : Nat} : zMet (d := d) X_X9_sumsOf yX9_sumsOf 17 g_X9_sumsOf_119 := zMet_smM m_X9_sumsOfa ev_X9_sumsOf_119
noncomputable def h0_X9_sumsOf_120 : zH 4 := (show zT 4 from ((zk_99_zs1_99_f00_X9_sumsOf_63, (((0, 456, bg_73), zk_99_zs1_99_f00_X9_sumsOf_61), ((0, 66, bg_6), zk_99_zs1_99_f00_X9_sumsOf_0))), zk_99_zs1_99_f00_X9_sumsOf_64), (11, (0, 0)))
noncomputable def h1_X9_sumsOf_120 : zH 4 := (show zT 4 from ((zk_99_zs1_99_f00_X9_sumsOf_63, (((0, 456, bg_73), zk_99_zs1_99_f00_X9_sumsOf_61), ((0, 66, bg_6), zk_99_zs1_99_f00_X9_sumsOf_0))), zk_99_zs1_99_f00_X9_sumsOf_64), (11, (0, 0)))
theorem ev_X9_sumsOf_120 : f_X9_sumsOfa [zR 1, zR 2] h0_X9_sumsOf_120 (zrk (zU) h1_X9_sumsOf_120) = true := by decide +kernel
noncomputable def g_X9_sumsOf_120 {d : Nat} : List zV → zH d → zP d → Bool := zsmyM [(0, 0), (0, 1), (1, 21), (1, 20), (1, 22), (1, 33), (1, 3), (1, 31), (1, 32), (1, 26), (1, 27)] [zR 1, zR 2] h0_X9_sumsOf_120 (zU) h1_X9_sumsOf_120
theorem mg_X9_sumsOf_120 {d : Nat} : zMet (d := d) X_X9_sumsOf yX9_sumsOf 17 g_X9_sumsOf_120 := zMet_smM m_X9_sumsOfa ev_X9_sumsOf_120
noncomputable def h0_X9_sumsOf_121 : zH 4 := (show zT 4 from ((zk_99_zs1_99_f00_X9_sumsOf_63, (((0, 456, bg_73), zk_99_zs1_99_f00_X9_sumsOf_62), ((0, 66, bg_6), zk_99_zs1_99_f00_X9_sumsOf_0))), zk_99_zs1_99_f00_X9_sumsOf_64), (11, (0, 0)))
noncomputable def h1_X9_sumsOf_121 : zH 4 := (show zT 4 from ((zk_99_zs1_99_f00_X9_sumsOf_63, (((0, 456, bg_73), zk_99_zs1_99_f00_X9_sumsOf_62), ((0, 66, bg_6), zk_99_zs1_99_f00_X9_sumsOf_0))), zk_99_zs1_99_f00_X9_sumsOf_64), (11, (0, 0)))
theorem ev_X9_sumsOf_121 : f_X9_sumsOfa [zR 1, zR 2] h0_X9_sumsOf_121 (zrk (zU) h1_X9_sumsOf_121) = true := by decide +kernel
noncomputable def g_X9_sumsOf_121 {d : Nat} : List zV → zH d → zP d → Bool := zsmyM [(0, 0), (0, 1), (1, 21), (1, 20), (1, 22), (1, 33), (1, 3), (1, 31), (1, 32), (1, 26), (1, 27)] [zR 1, zR 2] h0_X9_sumsOf_121 (zU) h1_X9_sumsOf_121
theorem mg_X9_sumsOf_121 {d : Nat} : zMet (d := d) X_X9_sumsOf yX9_sumsOf 17 g_X9_sumsOf_121 := zMet_smM m_X9_sumsOfa ev_X9_sumsOf_121
noncomputable def h0_X9_sumsOf_122 : zH 4 := (show zT 4 from (((((25, 63, bg_174), (0, 12000, zun 40 12000 4294967296)), ((0, 11, bg_175), (0, 11, bg_176))), (((0, 456, bg_76), zk_99_zs1_99_f00_X9_sumsOf_58), ((0, 66, bg_6), zk_99_zs1_99_f00_X9_sumsOf_0))), (((zk_99_zs1_99_f00_X9_sumsOf_1, (10, 46656, 20)), ((11, 720, 20), (0, 0, 0))), zO2)), (11, (0, 0)))
noncomputable def h1_X9_sumsOf_122 : zH 4 := (show zT 4 from (((((25, 63, bg_174), (0, 12000, zun 40 12000 4294967296)), ((0, 11, bg_175), (0, 11, bg_176))), (((0, 456, bg_76), zk_99_zs1_99_f00_X9_sumsOf_58), ((0, 66, bg_6), zk_99_zs1_99_f00_X9_sumsOf_0))), (((zk_99_zs1_99_f00_X9_sumsOf_1, (10, 46656, 20)), ((11, 720, 20), (0, 0, 0))), zO2)), (11, (0, 0)))
theorem ev_X9_sumsOf_122 : f_X9_sumsOfa [zR 1, zR 2] h0_X9_sumsOf_122 (zrk (zU) h1_X9_sumsOf_122) = true := by decide +kernel
noncomputable def g_X9_sumsOf_122 {d : Nat} : List zV → zH d → zP d → Bool := zsmyM [(0, 0), (0, 1), (1, 21), (1, 20), (1, 22), (1, 33), (1, 3), (1, 31), (1, 32), (1, 26), (1, 27)] [zR 1, zR 2] h0_X9_sumsOf_122 (zU) h1_X9_sumsOf_122
theorem mg_X9_sumsOf_122 {d : Nat} : zMet (d := d) X_X9_sumsOf yX9_sumsOf 17 g_X9_sumsOf_122 := zMet_smM m_X9_sumsOfa ev_X9_sumsOf_122
