section
/-! the reference by summaries, by program -/
noncomputable def cX9_formsa_59 {d : Nat} (P : zP d) (r19 : zK d) : zK d := (xild 3 (xbin zaddR (xild 4 (xasQ 0 (fun v => v) (xald 0 (xgfR 25 34 (xpI 16 (xild 2 (xbin zmulR (xild 3 (xbin zaddR (xild 4 (xald 0 (xgfI 25 1 (xbinN zremR (xald 0 (xgfI 25 1 (xbin zaddR (xald 0 (xgfI 25 1 (xbinN zremR (xasQ 0 (fun v => v) (xincR 3 1 r19)))))))))))))))))))))))
set_option maxRecDepth 100000 in
set_option maxHeartbeats 4000000 in
theorem scX9_formsa_59 {d : Nat} [zGh] (P : zP d) (r19 : zK d) (hr19 : zSimJ 3 X_X9_forms 19 P 19 r19) : zSim X_X9_forms 19 P 59 (cX9_formsa_59 P r19) := by
  unfold cX9_formsa_59
  refine sm_iload_n (pc := 59) (n := 3) dX9_forms_59 rfl ?_
  refine sm_iaddR (pc := 60) dX9_forms_60 ?_
  refine sm_iload (pc := 61) (n := 4) dX9_forms_61 ?_
  refine sm_iastoreQ (pc := 63) dX9_forms_63 ?_
  refine sm_aload_n (pc := 64) (n := 0) dX9_forms_64 rfl ?_
  refine gf_X9_87 (pc := 65) rfl dX9_forms_65 ?_
  refine sm_bipush (pc := 68) dX9_forms_68 zc_b_16 ?_
  refine sm_iload_n (pc := 70) (n := 2) dX9_forms_70 rfl ?_
  refine sm_imulR (pc := 71) dX9_forms_71 ?_
  refine sm_iload_n (pc := 72) (n := 3) dX9_forms_72 rfl ?_
  refine sm_iaddR (pc := 73) dX9_forms_73 ?_
  refine sm_iload (pc := 74) (n := 4) dX9_forms_74 ?_
  refine sm_aload_n (pc := 76) (n := 0) dX9_forms_76 rfl ?_
  refine gf_X9_184 (pc := 77) rfl dX9_forms_77 ?_
  refine sm_iremR (pc := 80) dX9_forms_80 ?_
  refine sm_aload_n (pc := 81) (n := 0) dX9_forms_81 rfl ?_
  refine gf_X9_184 (pc := 82) rfl dX9_forms_82 ?_
  refine sm_iaddR (pc := 85) dX9_forms_85 ?_
  refine sm_aload_n (pc := 86) (n := 0) dX9_forms_86 rfl ?_
  refine gf_X9_184 (pc := 87) rfl dX9_forms_87 ?_
  refine sm_iremR (pc := 90) dX9_forms_90 ?_
  refine sm_iastoreQ (pc := 91) dX9_forms_91 ?_
  refine sm_iincR (pc := 92) (n := 3) dX9_forms_92 zc_i_1 ?_
  refine sm_goto (pc := 95) (tgt := 19) dX9_forms_95 (by decide) ?_
  exact hr19.use
noncomputable def lX9_formsa_19 {d : Nat} (P : zP d) (r19 : zK d) (r7 : zK d) : zK d := (xild 3 (xald 0 (xgfR 25 21 (xild 1 (xalQ 0 (xcmpS tgeR rlGe rhS rlS rhLt (xincR 2 1 r7) (xald 0 (xald 0 (xgfR 25 29 (xild 2 (xald 0 (xgfR 25 29 (xild 3 (xcV 25 5 0 0 (zstr f_X9_forma) (xist 4 (xald 0 (xgfR 25 35 (xpI 256 (xild 1 (xbin zmulR (xpI 16 (xild 2 (xbin zmulR (xbin zaddR (cX9_formsa_59 P r19)))))))))))))))))))))))))
set_option maxRecDepth 100000 in
set_option maxHeartbeats 4000000 in
theorem slX9_formsa_19 {d : Nat} [zGh] (P : zP d) (r19 : zK d) (r7 : zK d) (hr19 : zSimJ 3 X_X9_forms 19 P 19 r19) (hr7 : zSimJ 2 X_X9_forms 19 P 7 r7) : zSim X_X9_forms 19 P 19 (lX9_formsa_19 P r19 r7) := by
  unfold lX9_formsa_19
  refine sm_iload_n (pc := 19) (n := 3) dX9_forms_19 rfl ?_
  refine sm_aload_n (pc := 20) (n := 0) dX9_forms_20 rfl ?_
  refine gf_X9_56 (pc := 21) rfl dX9_forms_21 ?_
  refine sm_iload_n (pc := 24) (n := 1) dX9_forms_24 rfl ?_
  refine sm_ialoadQ (pc := 25) dX9_forms_25 ?_
  refine sm_icmpS_ge (pc := 26) (tgt := 98) dX9_forms_26 (by decide) ?_ ?_
  · skip
    refine sm_iincR (pc := 98) (n := 2) dX9_forms_98 zc_i_1 ?_
    refine sm_goto (pc := 101) (tgt := 7) dX9_forms_101 (by decide) ?_
    exact hr7.use
  · skip
    refine sm_aload_n (pc := 29) (n := 0) dX9_forms_29 rfl ?_
    refine sm_aload_n (pc := 30) (n := 0) dX9_forms_30 rfl ?_
    refine gf_X9_72 (pc := 31) rfl dX9_forms_31 ?_
    refine sm_iload_n (pc := 34) (n := 2) dX9_forms_34 rfl ?_
    refine sm_aload_n (pc := 35) (n := 0) dX9_forms_35 rfl ?_
    refine gf_X9_72 (pc := 36) rfl dX9_forms_36 ?_
    refine sm_iload_n (pc := 39) (n := 3) dX9_forms_39 rfl ?_
    refine sm_cV (pc := 40) (ci := 9) (n := 5) (mc := 0) (ms := 0) rfl (zMet_str m_X9_forma) (cr_X9_245 (X := X_X9_forms) (fr := 19) (frc := 1) (pc := 40) (mc := 0) (ms := 0) rfl (by decide) dX9_forms_40) ?_
    refine sm_istore (pc := 43) (n := 4) dX9_forms_43 ?_
    refine sm_aload_n (pc := 45) (n := 0) dX9_forms_45 rfl ?_
    refine gf_X9_90 (pc := 46) rfl dX9_forms_46 ?_
    refine sm_sipush (pc := 49) dX9_forms_49 zc_s_256 ?_
    refine sm_iload_n (pc := 52) (n := 1) dX9_forms_52 rfl ?_
    refine sm_imulR (pc := 53) dX9_forms_53 ?_
    refine sm_bipush (pc := 54) dX9_forms_54 zc_b_16 ?_
    refine sm_iload_n (pc := 56) (n := 2) dX9_forms_56 rfl ?_
    refine sm_imulR (pc := 57) dX9_forms_57 ?_
    refine sm_iaddR (pc := 58) dX9_forms_58 ?_
    exact scX9_formsa_59 P r19 hr19
noncomputable def lX9_formsa_7 {d : Nat} (P : zP d) (r7 : zK d) : zK d := (xild 2 (xald 0 (xgfR 25 21 (xild 1 (xalQ 0 (xcmpS tgeR rlGe rhS rlS rhLt (xald 0 (xgfR 25 36 (xild 1 (xald 0 (xald 0 (xgfR 25 21 (xild 1 (xalQ 0 (xcV 25 2 0 0 (zstr gs_X9_rankOf) (xasQ 0 (fun v => v) (xvret P))))))))))) (xpI 0 (xist 3 (xlp 3 2 (hsC 17) wkE (fun r19 => (lX9_formsa_19 P r19 r7)))))))))))
set_option maxRecDepth 100000 in
set_option maxHeartbeats 4000000 in
theorem slX9_formsa_7 {d : Nat} [zGh] (P : zP d) (r7 : zK d) (hr7 : zSimJ 2 X_X9_forms 19 P 7 r7) : zSim X_X9_forms 19 P 7 (lX9_formsa_7 P r7) := by
  unfold lX9_formsa_7
  refine sm_iload_n (pc := 7) (n := 2) dX9_forms_7 rfl ?_
  refine sm_aload_n (pc := 8) (n := 0) dX9_forms_8 rfl ?_
  refine gf_X9_56 (pc := 9) rfl dX9_forms_9 ?_
  refine sm_iload_n (pc := 12) (n := 1) dX9_forms_12 rfl ?_
  refine sm_ialoadQ (pc := 13) dX9_forms_13 ?_
  refine sm_icmpS_ge (pc := 14) (tgt := 104) dX9_forms_14 (by decide) ?_ ?_
  · skip
    refine sm_aload_n (pc := 104) (n := 0) dX9_forms_104 rfl ?_
    refine gf_X9_93 (pc := 105) rfl dX9_forms_105 ?_
    refine sm_iload_n (pc := 108) (n := 1) dX9_forms_108 rfl ?_
    refine sm_aload_n (pc := 109) (n := 0) dX9_forms_109 rfl ?_
    refine sm_aload_n (pc := 110) (n := 0) dX9_forms_110 rfl ?_
    refine gf_X9_56 (pc := 111) rfl dX9_forms_111 ?_
    refine sm_iload_n (pc := 114) (n := 1) dX9_forms_114 rfl ?_
    refine sm_ialoadQ (pc := 115) dX9_forms_115 ?_
    refine sm_cV (pc := 116) (ci := 9) (n := 2) (mc := 0) (ms := 0) rfl (zMet_str mgs_X9_rankOf) (cr_X9_249 (X := X_X9_forms) (fr := 19) (frc := 2) (pc := 116) (mc := 0) (ms := 0) rfl (by decide) dX9_forms_116) ?_
    refine sm_iastoreQ (pc := 119) dX9_forms_119 ?_
    exact sm_vreturn (pc := 120) dX9_forms_120 rfl
  · skip
    refine sm_iconst (pc := 17) dX9_forms_17 zc_i_0 ?_
    refine sm_istore_n (pc := 18) (n := 3) dX9_forms_18 rfl ?_
    exact sm_lp (i := 3) (j := 2) (by decide) (by decide) hsC_ok wkE_ok (fun G1 hG1 r19 hr19 => @slX9_formsa_19 d G1 P r19 r7 hr19 (hr7.mv hG1 (by decide)))
noncomputable def b_X9_formsa {d : Nat} (P : zP d) : zK d := (xald 0 (xild 1 (xcV 25 2 0 0 (zstr f_X9_beginsa) (xpI 0 (xist 2 (xlp 2 1 (hsC 17) (wkA 0 [35] 4294967296 (wkA 0 [34] 4294967296 wkE)) (fun r7 => (lX9_formsa_7 P r7))))))))
set_option maxRecDepth 100000 in
set_option maxHeartbeats 4000000 in
theorem s_X9_formsa {d : Nat} [zGh] (P : zP d) : zSim X_X9_forms 19 P 0 (b_X9_formsa P) := by
  unfold b_X9_formsa
  refine sm_aload_n (pc := 0) (n := 0) dX9_forms_0 rfl ?_
  refine sm_iload_n (pc := 1) (n := 1) dX9_forms_1 rfl ?_
  refine sm_cV (pc := 2) (ci := 9) (n := 2) (mc := 0) (ms := 0) rfl (zMet_str m_X9_beginsa) (cr_X9_241 (X := X_X9_forms) (fr := 19) (frc := 18) (pc := 2) (mc := 0) (ms := 0) rfl (by decide) dX9_forms_2) ?_
  refine sm_iconst (pc := 5) dX9_forms_5 zc_i_0 ?_
  refine sm_istore_n (pc := 6) (n := 2) dX9_forms_6 rfl ?_
  exact sm_lp (i := 2) (j := 1) (by decide) (by decide) hsC_ok (wkA_ok (wkA_ok wkE_ok)) (fun G1 hG1 r7 hr7 => @slX9_formsa_7 d G1 P r7 hr7)
noncomputable def f_X9_formsa {d : Nat} : List zV → zH d → zP d → Bool := zfn 5 b_X9_formsa
theorem m_X9_formsa {d : Nat} : zMet (d := d) X_X9_forms yX9_forms 19 f_X9_formsa := zmet_mk (X := X_X9_forms) (by decide) rfl rfl s_X9_formsa

noncomputable def zk_99_zs1_99_l00_X9_forms_0 : zC := (0, 7, 0x100000000010000000001000000000100000000010000000001000000000100000000)
noncomputable def zk_99_zs1_99_l00_X9_forms_1 : zT 1 := @Prod.mk (zT 0) (zT 0) (0, 6, 0x10000000001000000000100000000010000000001000000000100000000) zk_99_zs1_99_l00_X9_forms_0
noncomputable def zk_99_zs1_99_l00_X9_forms_2 : zT 2 := @Prod.mk (zT 1) (zT 1) (zk_99_zs1_99_l00_X9_forms_0, (0, 66, bg_1)) zk_99_zs1_99_l00_X9_forms_1
noncomputable def zk_99_zs1_99_l00_X9_forms_3 : zT 1 := @Prod.mk (zT 0) (zT 0) (0, 12000, zun 40 12000 4294967296) (0, 2816, zun 40 2816 4294967296)
noncomputable def zk_99_zs1_99_l00_X9_forms_4 : zT 2 := @Prod.mk (zT 1) (zT 1) ((0, 256, zun 40 256 4294967296), (0, 11, zun 40 11 4294967296)) zO1
noncomputable def zk_99_zs1_99_l00_X9_forms_5 : zT 3 := @Prod.mk (zT 2) (zT 2) (((0, 46656, zun 40 46656 4294968017), (0, 720, zun 40 720 4295013952)), zk_99_zs1_99_l00_X9_forms_3) zk_99_zs1_99_l00_X9_forms_4
noncomputable def h0_X9_forms_0 : zH 4 := (show zT 4 from (((((25, 63, bg_206), (0, 11, bg_8)), ((0, 11, bg_131), (0, 456, bg_16))), zk_99_zs1_99_l00_X9_forms_2), zk_99_zs1_99_l00_X9_forms_5), (14, (0, 0)))
noncomputable def zk_99_zs1_99_l00_X9_forms_6 : zT 2 := @Prod.mk (zT 1) (zT 1) ((0, 7, 0x100000000010000000001000000000100000000010000000000000000010100000000), (0, 66, bg_1)) zk_99_zs1_99_l00_X9_forms_1
noncomputable def zk_99_zs1_99_l00_X9_forms_7 : zT 3 := @Prod.mk (zT 2) (zT 2) (((10, 46656, 1), (11, 720, 1)), zk_99_zs1_99_l00_X9_forms_3) (((0, 256, zun 40 256 4294967296), (0, 11, bg_208)), zO1)
noncomputable def h1_X9_forms_0 : zH 4 := (show zT 4 from (((((25, 63, bg_207), (0, 11, bg_8)), ((0, 11, bg_131), (0, 456, bg_16))), zk_99_zs1_99_l00_X9_forms_6), zk_99_zs1_99_l00_X9_forms_7), (14, (0, 0)))
theorem ev_X9_forms_0 : f_X9_formsa [zR 1, zI 0] h0_X9_forms_0 (zrk (zU) h1_X9_forms_0) = true := by decide +kernel
noncomputable def g_X9_forms_0 {d : Nat} : List zV → zH d → zP d → Bool := zsmyM [(0, 0), (1, 21), (1, 20), (1, 22), (1, 33), (1, 3), (1, 31), (1, 32), (1, 26), (1, 27), (1, 29), (1, 35), (1, 34), (1, 36)] [zR 1, zI 0] h0_X9_forms_0 (zU) h1_X9_forms_0
theorem mg_X9_forms_0 {d : Nat} : zMet (d := d) X_X9_forms yX9_forms 19 g_X9_forms_0 := zMet_smM m_X9_formsa ev_X9_forms_0
noncomputable def h0_X9_forms_1 : zH 4 := (show zT 4 from (((((25, 63, bg_209), (0, 11, bg_8)), ((0, 11, bg_131), (0, 456, bg_16))), zk_99_zs1_99_l00_X9_forms_2), zk_99_zs1_99_l00_X9_forms_5), (14, (0, 0)))
noncomputable def h1_X9_forms_1 : zH 4 := (show zT 4 from (((((25, 63, bg_210), (0, 11, bg_8)), ((0, 11, bg_131), (0, 456, bg_16))), zk_99_zs1_99_l00_X9_forms_6), zk_99_zs1_99_l00_X9_forms_7), (14, (0, 0)))
theorem ev_X9_forms_1 : f_X9_formsa [zR 1, zI 0] h0_X9_forms_1 (zrk (zU) h1_X9_forms_1) = true := by decide +kernel
noncomputable def g_X9_forms_1 {d : Nat} : List zV → zH d → zP d → Bool := zsmyM [(0, 0), (1, 21), (1, 20), (1, 22), (1, 33), (1, 3), (1, 31), (1, 32), (1, 26), (1, 27), (1, 29), (1, 35), (1, 34), (1, 36)] [zR 1, zI 0] h0_X9_forms_1 (zU) h1_X9_forms_1
theorem mg_X9_forms_1 {d : Nat} : zMet (d := d) X_X9_forms yX9_forms 19 g_X9_forms_1 := zMet_smM m_X9_formsa ev_X9_forms_1
noncomputable def h0_X9_forms_2 : zH 4 := (show zT 4 from (((((25, 63, bg_211), (0, 11, bg_8)), ((0, 11, bg_131), (0, 456, bg_16))), zk_99_zs1_99_l00_X9_forms_2), zk_99_zs1_99_l00_X9_forms_5), (14, (0, 0)))
noncomputable def h1_X9_forms_2 : zH 4 := (show zT 4 from (((((25, 63, bg_212), (0, 11, bg_8)), ((0, 11, bg_131), (0, 456, bg_16))), zk_99_zs1_99_l00_X9_forms_6), zk_99_zs1_99_l00_X9_forms_7), (14, (0, 0)))
theorem ev_X9_forms_2 : f_X9_formsa [zR 1, zI 0] h0_X9_forms_2 (zrk (zU) h1_X9_forms_2) = true := by decide +kernel
noncomputable def g_X9_forms_2 {d : Nat} : List zV → zH d → zP d → Bool := zsmyM [(0, 0), (1, 21), (1, 20), (1, 22), (1, 33), (1, 3), (1, 31), (1, 32), (1, 26), (1, 27), (1, 29), (1, 35), (1, 34), (1, 36)] [zR 1, zI 0] h0_X9_forms_2 (zU) h1_X9_forms_2
theorem mg_X9_forms_2 {d : Nat} : zMet (d := d) X_X9_forms yX9_forms 19 g_X9_forms_2 := zMet_smM m_X9_formsa ev_X9_forms_2
noncomputable def h0_X9_forms_3 : zH 4 := (show zT 4 from (((((25, 63, bg_213), (0, 11, bg_8)), ((0, 11, bg_131), (0, 456, bg_16))), zk_99_zs1_99_l00_X9_forms_2), zk_99_zs1_99_l00_X9_forms_5), (14, (0, 0)))
noncomputable def h1_X9_forms_3 : zH 4 := (show zT 4 from (((((25, 63, bg_214), (0, 11, bg_8)), ((0, 11, bg_131), (0, 456, bg_16))), zk_99_zs1_99_l00_X9_forms_6), zk_99_zs1_99_l00_X9_forms_7), (14, (0, 0)))
theorem ev_X9_forms_3 : f_X9_formsa [zR 1, zI 0] h0_X9_forms_3 (zrk (zU) h1_X9_forms_3) = true := by decide +kernel
noncomputable def g_X9_forms_3 {d : Nat} : List zV → zH d → zP d → Bool := zsmyM [(0, 0), (1, 21), (1, 20), (1, 22), (1, 33), (1, 3), (1, 31), (1, 32), (1, 26), (1, 27), (1, 29), (1, 35), (1, 34), (1, 36)] [zR 1, zI 0] h0_X9_forms_3 (zU) h1_X9_forms_3
theorem mg_X9_forms_3 {d : Nat} : zMet (d := d) X_X9_forms yX9_forms 19 g_X9_forms_3 := zMet_smM m_X9_formsa ev_X9_forms_3
noncomputable def zk_99_zs1_99_l00_X9_forms_8 : zT 2 := @Prod.mk (zT 1) (zT 1) (zk_99_zs1_99_l00_X9_forms_0, (0, 66, bg_2)) zk_99_zs1_99_l00_X9_forms_1
noncomputable def h0_X9_forms_4 : zH 4 := (show zT 4 from (((((25, 63, bg_215), (0, 11, bg_8)), ((0, 11, bg_131), (0, 456, bg_19))), zk_99_zs1_99_l00_X9_forms_8), zk_99_zs1_99_l00_X9_forms_5), (14, (0, 0)))
noncomputable def zk_99_zs1_99_l00_X9_forms_9 : zT 2 := @Prod.mk (zT 1) (zT 1) ((0, 7, 0x100000000010000000001000000000100000000000000000200000000010100000000), (0, 66, bg_2)) zk_99_zs1_99_l00_X9_forms_1
noncomputable def zk_99_zs1_99_l00_X9_forms_10 : zT 2 := @Prod.mk (zT 1) (zT 1) ((10, 46656, 2), (11, 720, 2)) zk_99_zs1_99_l00_X9_forms_3
noncomputable def zk_99_zs1_99_l00_X9_forms_11 : zT 3 := @Prod.mk (zT 2) (zT 2) zk_99_zs1_99_l00_X9_forms_10 (((0, 256, zun 40 256 4294967296), (0, 11, bg_208)), zO1)
noncomputable def h1_X9_forms_4 : zH 4 := (show zT 4 from (((((25, 63, bg_216), (0, 11, bg_8)), ((0, 11, bg_131), (0, 456, bg_19))), zk_99_zs1_99_l00_X9_forms_9), zk_99_zs1_99_l00_X9_forms_11), (14, (0, 0)))
theorem ev_X9_forms_4 : f_X9_formsa [zR 1, zI 0] h0_X9_forms_4 (zrk (zU) h1_X9_forms_4) = true := by decide +kernel
noncomputable def g_X9_forms_4 {d : Nat} : List zV → zH d → zP d → Bool := zsmyM [(0, 0), (1, 21), (1, 20), (1, 22), (1, 33), (1, 3), (1, 31), (1, 32), (1, 26), (1, 27), (1, 29), (1, 35), (1, 34), (1, 36)] [zR 1, zI 0] h0_X9_forms_4 (zU) h1_X9_forms_4
theorem mg_X9_forms_4 {d : Nat} : zMet (d := d) X_X9_forms yX9_forms 19 g_X9_forms_4 := zMet_smM m_X9_formsa ev_X9_forms_4
noncomputable def zk_99_zs1_99_l00_X9_forms_12 : zT 2 := @Prod.mk (zT 1) (zT 1) ((25, 63, bg_217), (0, 11, bg_134)) ((0, 11, bg_135), (0, 456, bg_22))
noncomputable def h0_X9_forms_5 : zH 4 := (show zT 4 from ((zk_99_zs1_99_l00_X9_forms_12, zk_99_zs1_99_l00_X9_forms_8), (zk_99_zs1_99_l00_X9_forms_10, zk_99_zs1_99_l00_X9_forms_4)), (14, (0, 0)))
noncomputable def zk_99_zs1_99_l00_X9_forms_13 : zT 3 := @Prod.mk (zT 2) (zT 2) (((10, 46656, 9), (11, 720, 9)), zk_99_zs1_99_l00_X9_forms_3) (((0, 256, zun 40 256 4294967296), (0, 11, bg_218)), zO1)
noncomputable def h1_X9_forms_5 : zH 4 := (show zT 4 from ((zk_99_zs1_99_l00_X9_forms_12, zk_99_zs1_99_l00_X9_forms_9), zk_99_zs1_99_l00_X9_forms_13), (14, (0, 0)))
theorem ev_X9_forms_5 : f_X9_formsa [zR 1, zI 1] h0_X9_forms_5 (zrk (zU) h1_X9_forms_5) = true := by decide +kernel
noncomputable def g_X9_forms_5 {d : Nat} : List zV → zH d → zP d → Bool := zsmyM [(0, 0), (1, 21), (1, 20), (1, 22), (1, 33), (1, 3), (1, 31), (1, 32), (1, 26), (1, 27), (1, 29), (1, 35), (1, 34), (1, 36)] [zR 1, zI 1] h0_X9_forms_5 (zU) h1_X9_forms_5
theorem mg_X9_forms_5 {d : Nat} : zMet (d := d) X_X9_forms yX9_forms 19 g_X9_forms_5 := zMet_smM m_X9_formsa ev_X9_forms_5
noncomputable def h0_X9_forms_6 : zH 4 := (show zT 4 from (((((25, 63, bg_219), (0, 11, bg_8)), ((0, 11, bg_131), (0, 456, bg_19))), zk_99_zs1_99_l00_X9_forms_8), zk_99_zs1_99_l00_X9_forms_5), (14, (0, 0)))
noncomputable def h1_X9_forms_6 : zH 4 := (show zT 4 from (((((25, 63, bg_220), (0, 11, bg_8)), ((0, 11, bg_131), (0, 456, bg_19))), zk_99_zs1_99_l00_X9_forms_9), zk_99_zs1_99_l00_X9_forms_11), (14, (0, 0)))
theorem ev_X9_forms_6 : f_X9_formsa [zR 1, zI 0] h0_X9_forms_6 (zrk (zU) h1_X9_forms_6) = true := by decide +kernel
noncomputable def g_X9_forms_6 {d : Nat} : List zV → zH d → zP d → Bool := zsmyM [(0, 0), (1, 21), (1, 20), (1, 22), (1, 33), (1, 3), (1, 31), (1, 32), (1, 26), (1, 27), (1, 29), (1, 35), (1, 34), (1, 36)] [zR 1, zI 0] h0_X9_forms_6 (zU) h1_X9_forms_6
theorem mg_X9_forms_6 {d : Nat} : zMet (d := d) X_X9_forms yX9_forms 19 g_X9_forms_6 := zMet_smM m_X9_formsa ev_X9_forms_6
noncomputable def zk_99_zs1_99_l00_X9_forms_14 : zT 2 := @Prod.mk (zT 1) (zT 1) ((25, 63, bg_221), (0, 11, bg_134)) ((0, 11, bg_135), (0, 456, bg_22))
noncomputable def h0_X9_forms_7 : zH 4 := (show zT 4 from ((zk_99_zs1_99_l00_X9_forms_14, zk_99_zs1_99_l00_X9_forms_8), (zk_99_zs1_99_l00_X9_forms_10, zk_99_zs1_99_l00_X9_forms_4)), (14, (0, 0)))
noncomputable def h1_X9_forms_7 : zH 4 := (show zT 4 from ((zk_99_zs1_99_l00_X9_forms_14, zk_99_zs1_99_l00_X9_forms_9), zk_99_zs1_99_l00_X9_forms_13), (14, (0, 0)))
theorem ev_X9_forms_7 : f_X9_formsa [zR 1, zI 1] h0_X9_forms_7 (zrk (zU) h1_X9_forms_7) = true := by decide +kernel
noncomputable def g_X9_forms_7 {d : Nat} : List zV → zH d → zP d → Bool := zsmyM [(0, 0), (1, 21), (1, 20), (1, 22), (1, 33), (1, 3), (1, 31), (1, 32), (1, 26), (1, 27), (1, 29), (1, 35), (1, 34), (1, 36)] [zR 1, zI 1] h0_X9_forms_7 (zU) h1_X9_forms_7
theorem mg_X9_forms_7 {d : Nat} : zMet (d := d) X_X9_forms yX9_forms 19 g_X9_forms_7 := zMet_smM m_X9_formsa ev_X9_forms_7
noncomputable def h0_X9_forms_8 : zH 4 := (show zT 4 from (((((25, 63, bg_222), (0, 11, bg_8)), ((0, 11, bg_131), (0, 456, bg_19))), zk_99_zs1_99_l00_X9_forms_8), zk_99_zs1_99_l00_X9_forms_5), (14, (0, 0)))
noncomputable def h1_X9_forms_8 : zH 4 := (show zT 4 from (((((25, 63, bg_223), (0, 11, bg_8)), ((0, 11, bg_131), (0, 456, bg_19))), zk_99_zs1_99_l00_X9_forms_9), zk_99_zs1_99_l00_X9_forms_11), (14, (0, 0)))
theorem ev_X9_forms_8 : f_X9_formsa [zR 1, zI 0] h0_X9_forms_8 (zrk (zU) h1_X9_forms_8) = true := by decide +kernel
noncomputable def g_X9_forms_8 {d : Nat} : List zV → zH d → zP d → Bool := zsmyM [(0, 0), (1, 21), (1, 20), (1, 22), (1, 33), (1, 3), (1, 31), (1, 32), (1, 26), (1, 27), (1, 29), (1, 35), (1, 34), (1, 36)] [zR 1, zI 0] h0_X9_forms_8 (zU) h1_X9_forms_8
theorem mg_X9_forms_8 {d : Nat} : zMet (d := d) X_X9_forms yX9_forms 19 g_X9_forms_8 := zMet_smM m_X9_formsa ev_X9_forms_8
noncomputable def zk_99_zs1_99_l00_X9_forms_15 : zT 2 := @Prod.mk (zT 1) (zT 1) ((25, 63, bg_224), (0, 11, bg_134)) ((0, 11, bg_135), (0, 456, bg_22))
noncomputable def h0_X9_forms_9 : zH 4 := (show zT 4 from ((zk_99_zs1_99_l00_X9_forms_15, zk_99_zs1_99_l00_X9_forms_8), (zk_99_zs1_99_l00_X9_forms_10, zk_99_zs1_99_l00_X9_forms_4)), (14, (0, 0)))
noncomputable def h1_X9_forms_9 : zH 4 := (show zT 4 from ((zk_99_zs1_99_l00_X9_forms_15, zk_99_zs1_99_l00_X9_forms_9), zk_99_zs1_99_l00_X9_forms_13), (14, (0, 0)))
theorem ev_X9_forms_9 : f_X9_formsa [zR 1, zI 1] h0_X9_forms_9 (zrk (zU) h1_X9_forms_9) = true := by decide +kernel
noncomputable def g_X9_forms_9 {d : Nat} : List zV → zH d → zP d → Bool := zsmyM [(0, 0), (1, 21), (1, 20), (1, 22), (1, 33), (1, 3), (1, 31), (1, 32), (1, 26), (1, 27), (1, 29), (1, 35), (1, 34), (1, 36)] [zR 1, zI 1] h0_X9_forms_9 (zU) h1_X9_forms_9
theorem mg_X9_forms_9 {d : Nat} : zMet (d := d) X_X9_forms yX9_forms 19 g_X9_forms_9 := zMet_smM m_X9_formsa ev_X9_forms_9
noncomputable def h0_X9_forms_10 : zH 4 := (show zT 4 from (((((25, 63, bg_225), (0, 11, bg_8)), ((0, 11, bg_131), (0, 456, bg_19))), zk_99_zs1_99_l00_X9_forms_8), zk_99_zs1_99_l00_X9_forms_5), (14, (0, 0)))
noncomputable def h1_X9_forms_10 : zH 4 := (show zT 4 from (((((25, 63, bg_226), (0, 11, bg_8)), ((0, 11, bg_131), (0, 456, bg_19))), zk_99_zs1_99_l00_X9_forms_9), zk_99_zs1_99_l00_X9_forms_11), (14, (0, 0)))
theorem ev_X9_forms_10 : f_X9_formsa [zR 1, zI 0] h0_X9_forms_10 (zrk (zU) h1_X9_forms_10) = true := by decide +kernel
noncomputable def g_X9_forms_10 {d : Nat} : List zV → zH d → zP d → Bool := zsmyM [(0, 0), (1, 21), (1, 20), (1, 22), (1, 33), (1, 3), (1, 31), (1, 32), (1, 26), (1, 27), (1, 29), (1, 35), (1, 34), (1, 36)] [zR 1, zI 0] h0_X9_forms_10 (zU) h1_X9_forms_10
theorem mg_X9_forms_10 {d : Nat} : zMet (d := d) X_X9_forms yX9_forms 19 g_X9_forms_10 := zMet_smM m_X9_formsa ev_X9_forms_10
noncomputable def zk_99_zs1_99_l00_X9_forms_16 : zT 2 := @Prod.mk (zT 1) (zT 1) ((25, 63, bg_227), (0, 11, bg_134)) ((0, 11, bg_135), (0, 456, bg_22))
noncomputable def h0_X9_forms_11 : zH 4 := (show zT 4 from ((zk_99_zs1_99_l00_X9_forms_16, zk_99_zs1_99_l00_X9_forms_8), (zk_99_zs1_99_l00_X9_forms_10, zk_99_zs1_99_l00_X9_forms_4)), (14, (0, 0)))
noncomputable def h1_X9_forms_11 : zH 4 := (show zT 4 from ((zk_99_zs1_99_l00_X9_forms_16, zk_99_zs1_99_l00_X9_forms_9), zk_99_zs1_99_l00_X9_forms_13), (14, (0, 0)))
theorem ev_X9_forms_11 : f_X9_formsa [zR 1, zI 1] h0_X9_forms_11 (zrk (zU) h1_X9_forms_11) = true := by decide +kernel
noncomputable def g_X9_forms_11 {d : Nat} : List zV → zH d → zP d → Bool := zsmyM [(0, 0), (1, 21), (1, 20), (1, 22), (1, 33), (1, 3), (1, 31), (1, 32), (1, 26), (1, 27), (1, 29), (1, 35), (1, 34), (1, 36)] [zR 1, zI 1] h0_X9_forms_11 (zU) h1_X9_forms_11
theorem mg_X9_forms_11 {d : Nat} : zMet (d := d) X_X9_forms yX9_forms 19 g_X9_forms_11 := zMet_smM m_X9_formsa ev_X9_forms_11
noncomputable def zk_99_zs1_99_l00_X9_forms_17 : zT 2 := @Prod.mk (zT 1) (zT 1) (zk_99_zs1_99_l00_X9_forms_0, (0, 66, bg_3)) zk_99_zs1_99_l00_X9_forms_1
noncomputable def h0_X9_forms_12 : zH 4 := (show zT 4 from (((((25, 63, bg_228), (0, 11, bg_8)), ((0, 11, bg_131), (0, 456, bg_25))), zk_99_zs1_99_l00_X9_forms_17), zk_99_zs1_99_l00_X9_forms_5), (14, (0, 0)))
noncomputable def zk_99_zs1_99_l00_X9_forms_18 : zT 2 := @Prod.mk (zT 1) (zT 1) ((0, 7, 0x100000000010000000001000000000000000003000000000200000000010100000000), (0, 66, bg_3)) zk_99_zs1_99_l00_X9_forms_1
noncomputable def zk_99_zs1_99_l00_X9_forms_19 : zT 2 := @Prod.mk (zT 1) (zT 1) ((10, 46656, 3), (11, 720, 3)) zk_99_zs1_99_l00_X9_forms_3
noncomputable def zk_99_zs1_99_l00_X9_forms_20 : zT 3 := @Prod.mk (zT 2) (zT 2) zk_99_zs1_99_l00_X9_forms_19 (((0, 256, zun 40 256 4294967296), (0, 11, bg_208)), zO1)
noncomputable def h1_X9_forms_12 : zH 4 := (show zT 4 from (((((25, 63, bg_229), (0, 11, bg_8)), ((0, 11, bg_131), (0, 456, bg_25))), zk_99_zs1_99_l00_X9_forms_18), zk_99_zs1_99_l00_X9_forms_20), (14, (0, 0)))
theorem ev_X9_forms_12 : f_X9_formsa [zR 1, zI 0] h0_X9_forms_12 (zrk (zU) h1_X9_forms_12) = true := by decide +kernel
noncomputable def g_X9_forms_12 {d : Nat} : List zV → zH d → zP d → Bool := zsmyM [(0, 0), (1, 21), (1, 20), (1, 22), (1, 33), (1, 3), (1, 31), (1, 32), (1, 26), (1, 27), (1, 29), (1, 35), (1, 34), (1, 36)] [zR 1, zI 0] h0_X9_forms_12 (zU) h1_X9_forms_12
theorem mg_X9_forms_12 {d : Nat} : zMet (d := d) X_X9_forms yX9_forms 19 g_X9_forms_12 := zMet_smM m_X9_formsa ev_X9_forms_12
noncomputable def zk_99_zs1_99_l00_X9_forms_21 : zT 2 := @Prod.mk (zT 1) (zT 1) ((25, 63, bg_230), (0, 11, bg_9)) ((0, 11, bg_135), (0, 456, bg_28))
noncomputable def h0_X9_forms_13 : zH 4 := (show zT 4 from ((zk_99_zs1_99_l00_X9_forms_21, zk_99_zs1_99_l00_X9_forms_17), (zk_99_zs1_99_l00_X9_forms_19, zk_99_zs1_99_l00_X9_forms_4)), (14, (0, 0)))
noncomputable def zk_99_zs1_99_l00_X9_forms_22 : zT 2 := @Prod.mk (zT 1) (zT 1) ((10, 46656, 10), (11, 720, 10)) zk_99_zs1_99_l00_X9_forms_3
noncomputable def zk_99_zs1_99_l00_X9_forms_23 : zT 3 := @Prod.mk (zT 2) (zT 2) zk_99_zs1_99_l00_X9_forms_22 (((0, 256, zun 40 256 4294967296), (0, 11, bg_231)), zO1)
noncomputable def h1_X9_forms_13 : zH 4 := (show zT 4 from ((zk_99_zs1_99_l00_X9_forms_21, zk_99_zs1_99_l00_X9_forms_18), zk_99_zs1_99_l00_X9_forms_23), (14, (0, 0)))
theorem ev_X9_forms_13 : f_X9_formsa [zR 1, zI 1] h0_X9_forms_13 (zrk (zU) h1_X9_forms_13) = true := by decide +kernel
noncomputable def g_X9_forms_13 {d : Nat} : List zV → zH d → zP d → Bool := zsmyM [(0, 0), (1, 21), (1, 20), (1, 22), (1, 33), (1, 3), (1, 31), (1, 32), (1, 26), (1, 27), (1, 29), (1, 35), (1, 34), (1, 36)] [zR 1, zI 1] h0_X9_forms_13 (zU) h1_X9_forms_13
theorem mg_X9_forms_13 {d : Nat} : zMet (d := d) X_X9_forms yX9_forms 19 g_X9_forms_13 := zMet_smM m_X9_formsa ev_X9_forms_13
noncomputable def zk_99_zs1_99_l00_X9_forms_24 : zT 2 := @Prod.mk (zT 1) (zT 1) ((25, 63, bg_232), (0, 11, bg_139)) ((0, 11, bg_140), (0, 456, bg_31))
noncomputable def h0_X9_forms_14 : zH 4 := (show zT 4 from ((zk_99_zs1_99_l00_X9_forms_24, zk_99_zs1_99_l00_X9_forms_17), (zk_99_zs1_99_l00_X9_forms_22, zk_99_zs1_99_l00_X9_forms_4)), (14, (0, 0)))
noncomputable def zk_99_zs1_99_l00_X9_forms_25 : zT 3 := @Prod.mk (zT 2) (zT 2) (((10, 46656, 73), (11, 720, 73)), zk_99_zs1_99_l00_X9_forms_3) (((0, 256, zun 40 256 4294967296), (0, 11, bg_233)), zO1)
noncomputable def h1_X9_forms_14 : zH 4 := (show zT 4 from ((zk_99_zs1_99_l00_X9_forms_24, zk_99_zs1_99_l00_X9_forms_18), zk_99_zs1_99_l00_X9_forms_25), (14, (0, 0)))
theorem ev_X9_forms_14 : f_X9_formsa [zR 1, zI 2] h0_X9_forms_14 (zrk (zU) h1_X9_forms_14) = true := by decide +kernel
noncomputable def g_X9_forms_14 {d : Nat} : List zV → zH d → zP d → Bool := zsmyM [(0, 0), (1, 21), (1, 20), (1, 22), (1, 33), (1, 3), (1, 31), (1, 32), (1, 26), (1, 27), (1, 29), (1, 35), (1, 34), (1, 36)] [zR 1, zI 2] h0_X9_forms_14 (zU) h1_X9_forms_14
theorem mg_X9_forms_14 {d : Nat} : zMet (d := d) X_X9_forms yX9_forms 19 g_X9_forms_14 := zMet_smM m_X9_formsa ev_X9_forms_14
noncomputable def h0_X9_forms_15 : zH 4 := (show zT 4 from (((((25, 63, bg_234), (0, 11, bg_8)), ((0, 11, bg_131), (0, 456, bg_25))), zk_99_zs1_99_l00_X9_forms_17), zk_99_zs1_99_l00_X9_forms_5), (14, (0, 0)))
noncomputable def h1_X9_forms_15 : zH 4 := (show zT 4 from (((((25, 63, bg_235), (0, 11, bg_8)), ((0, 11, bg_131), (0, 456, bg_25))), zk_99_zs1_99_l00_X9_forms_18), zk_99_zs1_99_l00_X9_forms_20), (14, (0, 0)))
theorem ev_X9_forms_15 : f_X9_formsa [zR 1, zI 0] h0_X9_forms_15 (zrk (zU) h1_X9_forms_15) = true := by decide +kernel
noncomputable def g_X9_forms_15 {d : Nat} : List zV → zH d → zP d → Bool := zsmyM [(0, 0), (1, 21), (1, 20), (1, 22), (1, 33), (1, 3), (1, 31), (1, 32), (1, 26), (1, 27), (1, 29), (1, 35), (1, 34), (1, 36)] [zR 1, zI 0] h0_X9_forms_15 (zU) h1_X9_forms_15
theorem mg_X9_forms_15 {d : Nat} : zMet (d := d) X_X9_forms yX9_forms 19 g_X9_forms_15 := zMet_smM m_X9_formsa ev_X9_forms_15
noncomputable def zk_99_zs1_99_l00_X9_forms_26 : zT 2 := @Prod.mk (zT 1) (zT 1) ((25, 63, bg_236), (0, 11, bg_9)) ((0, 11, bg_135), (0, 456, bg_28))
noncomputable def h0_X9_forms_16 : zH 4 := (show zT 4 from ((zk_99_zs1_99_l00_X9_forms_26, zk_99_zs1_99_l00_X9_forms_17), (zk_99_zs1_99_l00_X9_forms_19, zk_99_zs1_99_l00_X9_forms_4)), (14, (0, 0)))
noncomputable def h1_X9_forms_16 : zH 4 := (show zT 4 from ((zk_99_zs1_99_l00_X9_forms_26, zk_99_zs1_99_l00_X9_forms_18), zk_99_zs1_99_l00_X9_forms_23), (14, (0, 0)))
theorem ev_X9_forms_16 : f_X9_formsa [zR 1, zI 1] h0_X9_forms_16 (zrk (zU) h1_X9_forms_16) = true := by decide +kernel
noncomputable def g_X9_forms_16 {d : Nat} : List zV → zH d → zP d → Bool := zsmyM [(0, 0), (1, 21), (1, 20), (1, 22), (1, 33), (1, 3), (1, 31), (1, 32), (1, 26), (1, 27), (1, 29), (1, 35), (1, 34), (1, 36)] [zR 1, zI 1] h0_X9_forms_16 (zU) h1_X9_forms_16
theorem mg_X9_forms_16 {d : Nat} : zMet (d := d) X_X9_forms yX9_forms 19 g_X9_forms_16 := zMet_smM m_X9_formsa ev_X9_forms_16
noncomputable def zk_99_zs1_99_l00_X9_forms_27 : zT 2 := @Prod.mk (zT 1) (zT 1) ((25, 63, bg_237), (0, 11, bg_139)) ((0, 11, bg_140), (0, 456, bg_31))
noncomputable def h0_X9_forms_17 : zH 4 := (show zT 4 from ((zk_99_zs1_99_l00_X9_forms_27, zk_99_zs1_99_l00_X9_forms_17), (zk_99_zs1_99_l00_X9_forms_22, zk_99_zs1_99_l00_X9_forms_4)), (14, (0, 0)))
noncomputable def h1_X9_forms_17 : zH 4 := (show zT 4 from ((zk_99_zs1_99_l00_X9_forms_27, zk_99_zs1_99_l00_X9_forms_18), zk_99_zs1_99_l00_X9_forms_25), (14, (0, 0)))
theorem ev_X9_forms_17 : f_X9_formsa [zR 1, zI 2] h0_X9_forms_17 (zrk (zU) h1_X9_forms_17) = true := by decide +kernel
noncomputable def g_X9_forms_17 {d : Nat} : List zV → zH d → zP d → Bool := zsmyM [(0, 0), (1, 21), (1, 20), (1, 22), (1, 33), (1, 3), (1, 31), (1, 32), (1, 26), (1, 27), (1, 29), (1, 35), (1, 34), (1, 36)] [zR 1, zI 2] h0_X9_forms_17 (zU) h1_X9_forms_17
theorem mg_X9_forms_17 {d : Nat} : zMet (d := d) X_X9_forms yX9_forms 19 g_X9_forms_17 := zMet_smM m_X9_formsa ev_X9_forms_17
noncomputable def h0_X9_forms_18 : zH 4 := (show zT 4 from (((((25, 63, bg_238), (0, 11, bg_8)), ((0, 11, bg_131), (0, 456, bg_25))), zk_99_zs1_99_l00_X9_forms_17), zk_99_zs1_99_l00_X9_forms_5), (14, (0, 0)))
noncomputable def h1_X9_forms_18 : zH 4 := (show zT 4 from (((((25, 63, bg_239), (0, 11, bg_8)), ((0, 11, bg_131), (0, 456, bg_25))), zk_99_zs1_99_l00_X9_forms_18), zk_99_zs1_99_l00_X9_forms_20), (14, (0, 0)))
theorem ev_X9_forms_18 : f_X9_formsa [zR 1, zI 0] h0_X9_forms_18 (zrk (zU) h1_X9_forms_18) = true := by decide +kernel
noncomputable def g_X9_forms_18 {d : Nat} : List zV → zH d → zP d → Bool := zsmyM [(0, 0), (1, 21), (1, 20), (1, 22), (1, 33), (1, 3), (1, 31), (1, 32), (1, 26), (1, 27), (1, 29), (1, 35), (1, 34), (1, 36)] [zR 1, zI 0] h0_X9_forms_18 (zU) h1_X9_forms_18
theorem mg_X9_forms_18 {d : Nat} : zMet (d := d) X_X9_forms yX9_forms 19 g_X9_forms_18 := zMet_smM m_X9_formsa ev_X9_forms_18
noncomputable def zk_99_zs1_99_l00_X9_forms_28 : zT 2 := @Prod.mk (zT 1) (zT 1) ((25, 63, bg_240), (0, 11, bg_9)) ((0, 11, bg_135), (0, 456, bg_28))
noncomputable def h0_X9_forms_19 : zH 4 := (show zT 4 from ((zk_99_zs1_99_l00_X9_forms_28, zk_99_zs1_99_l00_X9_forms_17), (zk_99_zs1_99_l00_X9_forms_19, zk_99_zs1_99_l00_X9_forms_4)), (14, (0, 0)))
noncomputable def h1_X9_forms_19 : zH 4 := (show zT 4 from ((zk_99_zs1_99_l00_X9_forms_28, zk_99_zs1_99_l00_X9_forms_18), zk_99_zs1_99_l00_X9_forms_23), (14, (0, 0)))
theorem ev_X9_forms_19 : f_X9_formsa [zR 1, zI 1] h0_X9_forms_19 (zrk (zU) h1_X9_forms_19) = true := by decide +kernel
noncomputable def g_X9_forms_19 {d : Nat} : List zV → zH d → zP d → Bool := zsmyM [(0, 0), (1, 21), (1, 20), (1, 22), (1, 33), (1, 3), (1, 31), (1, 32), (1, 26), (1, 27), (1, 29), (1, 35), (1, 34), (1, 36)] [zR 1, zI 1] h0_X9_forms_19 (zU) h1_X9_forms_19
theorem mg_X9_forms_19 {d : Nat} : zMet (d := d) X_X9_forms yX9_forms 19 g_X9_forms_19 := zMet_smM m_X9_formsa ev_X9_forms_19
noncomputable def zk_99_zs1_99_l00_X9_forms_29 : zT 2 := @Prod.mk (zT 1) (zT 1) ((25, 63, bg_241), (0, 11, bg_139)) ((0, 11, bg_140), (0, 456, bg_31))
noncomputable def h0_X9_forms_20 : zH 4 := (show zT 4 from ((zk_99_zs1_99_l00_X9_forms_29, zk_99_zs1_99_l00_X9_forms_17), (zk_99_zs1_99_l00_X9_forms_22, zk_99_zs1_99_l00_X9_forms_4)), (14, (0, 0)))
noncomputable def h1_X9_forms_20 : zH 4 := (show zT 4 from ((zk_99_zs1_99_l00_X9_forms_29, zk_99_zs1_99_l00_X9_forms_18), zk_99_zs1_99_l00_X9_forms_25), (14, (0, 0)))
theorem ev_X9_forms_20 : f_X9_formsa [zR 1, zI 2] h0_X9_forms_20 (zrk (zU) h1_X9_forms_20) = true := by decide +kernel
noncomputable def g_X9_forms_20 {d : Nat} : List zV → zH d → zP d → Bool := zsmyM [(0, 0), (1, 21), (1, 20), (1, 22), (1, 33), (1, 3), (1, 31), (1, 32), (1, 26), (1, 27), (1, 29), (1, 35), (1, 34), (1, 36)] [zR 1, zI 2] h0_X9_forms_20 (zU) h1_X9_forms_20
theorem mg_X9_forms_20 {d : Nat} : zMet (d := d) X_X9_forms yX9_forms 19 g_X9_forms_20 := zMet_smM m_X9_formsa ev_X9_forms_20
noncomputable def h0_X9_forms_21 : zH 4 := (show zT 4 from (((((25, 63, bg_242), (0, 11, bg_8)), ((0, 11, bg_131), (0, 456, bg_25))), zk_99_zs1_99_l00_X9_forms_17), zk_99_zs1_99_l00_X9_forms_5), (14, (0, 0)))
noncomputable def h1_X9_forms_21 : zH 4 := (show zT 4 from (((((25, 63, bg_243), (0, 11, bg_8)), ((0, 11, bg_131), (0, 456, bg_25))), zk_99_zs1_99_l00_X9_forms_18), zk_99_zs1_99_l00_X9_forms_20), (14, (0, 0)))
theorem ev_X9_forms_21 : f_X9_formsa [zR 1, zI 0] h0_X9_forms_21 (zrk (zU) h1_X9_forms_21) = true := by decide +kernel
noncomputable def g_X9_forms_21 {d : Nat} : List zV → zH d → zP d → Bool := zsmyM [(0, 0), (1, 21), (1, 20), (1, 22), (1, 33), (1, 3), (1, 31), (1, 32), (1, 26), (1, 27), (1, 29), (1, 35), (1, 34), (1, 36)] [zR 1, zI 0] h0_X9_forms_21 (zU) h1_X9_forms_21
theorem mg_X9_forms_21 {d : Nat} : zMet (d := d) X_X9_forms yX9_forms 19 g_X9_forms_21 := zMet_smM m_X9_formsa ev_X9_forms_21
noncomputable def zk_99_zs1_99_l00_X9_forms_30 : zT 2 := @Prod.mk (zT 1) (zT 1) ((25, 63, bg_244), (0, 11, bg_9)) ((0, 11, bg_135), (0, 456, bg_28))
noncomputable def h0_X9_forms_22 : zH 4 := (show zT 4 from ((zk_99_zs1_99_l00_X9_forms_30, zk_99_zs1_99_l00_X9_forms_17), (zk_99_zs1_99_l00_X9_forms_19, zk_99_zs1_99_l00_X9_forms_4)), (14, (0, 0)))
noncomputable def h1_X9_forms_22 : zH 4 := (show zT 4 from ((zk_99_zs1_99_l00_X9_forms_30, zk_99_zs1_99_l00_X9_forms_18), zk_99_zs1_99_l00_X9_forms_23), (14, (0, 0)))
theorem ev_X9_forms_22 : f_X9_formsa [zR 1, zI 1] h0_X9_forms_22 (zrk (zU) h1_X9_forms_22) = true := by decide +kernel
noncomputable def g_X9_forms_22 {d : Nat} : List zV → zH d → zP d → Bool := zsmyM [(0, 0), (1, 21), (1, 20), (1, 22), (1, 33), (1, 3), (1, 31), (1, 32), (1, 26), (1, 27), (1, 29), (1, 35), (1, 34), (1, 36)] [zR 1, zI 1] h0_X9_forms_22 (zU) h1_X9_forms_22
theorem mg_X9_forms_22 {d : Nat} : zMet (d := d) X_X9_forms yX9_forms 19 g_X9_forms_22 := zMet_smM m_X9_formsa ev_X9_forms_22
noncomputable def zk_99_zs1_99_l00_X9_forms_31 : zT 2 := @Prod.mk (zT 1) (zT 1) ((25, 63, bg_245), (0, 11, bg_139)) ((0, 11, bg_140), (0, 456, bg_31))
noncomputable def h0_X9_forms_23 : zH 4 := (show zT 4 from ((zk_99_zs1_99_l00_X9_forms_31, zk_99_zs1_99_l00_X9_forms_17), (zk_99_zs1_99_l00_X9_forms_22, zk_99_zs1_99_l00_X9_forms_4)), (14, (0, 0)))
noncomputable def h1_X9_forms_23 : zH 4 := (show zT 4 from ((zk_99_zs1_99_l00_X9_forms_31, zk_99_zs1_99_l00_X9_forms_18), zk_99_zs1_99_l00_X9_forms_25), (14, (0, 0)))
theorem ev_X9_forms_23 : f_X9_formsa [zR 1, zI 2] h0_X9_forms_23 (zrk (zU) h1_X9_forms_23) = true := by decide +kernel
noncomputable def g_X9_forms_23 {d : Nat} : List zV → zH d → zP d → Bool := zsmyM [(0, 0), (1, 21), (1, 20), (1, 22), (1, 33), (1, 3), (1, 31), (1, 32), (1, 26), (1, 27), (1, 29), (1, 35), (1, 34), (1, 36)] [zR 1, zI 2] h0_X9_forms_23 (zU) h1_X9_forms_23
theorem mg_X9_forms_23 {d : Nat} : zMet (d := d) X_X9_forms yX9_forms 19 g_X9_forms_23 := zMet_smM m_X9_formsa ev_X9_forms_23
noncomputable def zk_99_zs1_99_l00_X9_forms_32 : zT 2 := @Prod.mk (zT 1) (zT 1) (zk_99_zs1_99_l00_X9_forms_0, (0, 66, bg_4)) zk_99_zs1_99_l00_X9_forms_1
noncomputable def h0_X9_forms_24 : zH 4 := (show zT 4 from (((((25, 63, bg_246), (0, 11, bg_8)), ((0, 11, bg_131), (0, 456, bg_34))), zk_99_zs1_99_l00_X9_forms_32), zk_99_zs1_99_l00_X9_forms_5), (14, (0, 0)))
noncomputable def zk_99_zs1_99_l00_X9_forms_33 : zT 2 := @Prod.mk (zT 1) (zT 1) ((0, 7, 0x100000000010000000000000000040000000003000000000200000000010100000000), (0, 66, bg_4)) zk_99_zs1_99_l00_X9_forms_1
noncomputable def zk_99_zs1_99_l00_X9_forms_34 : zT 2 := @Prod.mk (zT 1) (zT 1) ((10, 46656, 4), (11, 720, 4)) zk_99_zs1_99_l00_X9_forms_3
noncomputable def zk_99_zs1_99_l00_X9_forms_35 : zT 3 := @Prod.mk (zT 2) (zT 2) zk_99_zs1_99_l00_X9_forms_34 (((0, 256, zun 40 256 4294967296), (0, 11, bg_208)), zO1)
noncomputable def h1_X9_forms_24 : zH 4 := (show zT 4 from (((((25, 63, bg_247), (0, 11, bg_8)), ((0, 11, bg_131), (0, 456, bg_34))), zk_99_zs1_99_l00_X9_forms_33), zk_99_zs1_99_l00_X9_forms_35), (14, (0, 0)))
theorem ev_X9_forms_24 : f_X9_formsa [zR 1, zI 0] h0_X9_forms_24 (zrk (zU) h1_X9_forms_24) = true := by decide +kernel
noncomputable def g_X9_forms_24 {d : Nat} : List zV → zH d → zP d → Bool := zsmyM [(0, 0), (1, 21), (1, 20), (1, 22), (1, 33), (1, 3), (1, 31), (1, 32), (1, 26), (1, 27), (1, 29), (1, 35), (1, 34), (1, 36)] [zR 1, zI 0] h0_X9_forms_24 (zU) h1_X9_forms_24
theorem mg_X9_forms_24 {d : Nat} : zMet (d := d) X_X9_forms yX9_forms 19 g_X9_forms_24 := zMet_smM m_X9_formsa ev_X9_forms_24
noncomputable def zk_99_zs1_99_l00_X9_forms_36 : zT 2 := @Prod.mk (zT 1) (zT 1) ((25, 63, bg_248), (0, 11, bg_143)) ((0, 11, bg_135), (0, 456, bg_37))
noncomputable def h0_X9_forms_25 : zH 4 := (show zT 4 from ((zk_99_zs1_99_l00_X9_forms_36, zk_99_zs1_99_l00_X9_forms_32), (zk_99_zs1_99_l00_X9_forms_34, zk_99_zs1_99_l00_X9_forms_4)), (14, (0, 0)))
noncomputable def zk_99_zs1_99_l00_X9_forms_37 : zT 2 := @Prod.mk (zT 1) (zT 1) ((10, 46656, 11), (11, 720, 11)) zk_99_zs1_99_l00_X9_forms_3
noncomputable def zk_99_zs1_99_l00_X9_forms_38 : zT 3 := @Prod.mk (zT 2) (zT 2) zk_99_zs1_99_l00_X9_forms_37 (((0, 256, zun 40 256 4294967296), (0, 11, bg_249)), zO1)
noncomputable def h1_X9_forms_25 : zH 4 := (show zT 4 from ((zk_99_zs1_99_l00_X9_forms_36, zk_99_zs1_99_l00_X9_forms_33), zk_99_zs1_99_l00_X9_forms_38), (14, (0, 0)))
theorem ev_X9_forms_25 : f_X9_formsa [zR 1, zI 1] h0_X9_forms_25 (zrk (zU) h1_X9_forms_25) = true := by decide +kernel
noncomputable def g_X9_forms_25 {d : Nat} : List zV → zH d → zP d → Bool := zsmyM [(0, 0), (1, 21), (1, 20), (1, 22), (1, 33), (1, 3), (1, 31), (1, 32), (1, 26), (1, 27), (1, 29), (1, 35), (1, 34), (1, 36)] [zR 1, zI 1] h0_X9_forms_25 (zU) h1_X9_forms_25
theorem mg_X9_forms_25 {d : Nat} : zMet (d := d) X_X9_forms yX9_forms 19 g_X9_forms_25 := zMet_smM m_X9_formsa ev_X9_forms_25
noncomputable def zk_99_zs1_99_l00_X9_forms_39 : zT 2 := @Prod.mk (zT 1) (zT 1) ((25, 63, bg_250), (0, 11, bg_145)) ((0, 11, bg_146), (0, 456, bg_40))
noncomputable def h0_X9_forms_26 : zH 4 := (show zT 4 from ((zk_99_zs1_99_l00_X9_forms_39, zk_99_zs1_99_l00_X9_forms_32), (zk_99_zs1_99_l00_X9_forms_37, zk_99_zs1_99_l00_X9_forms_4)), (14, (0, 0)))
noncomputable def zk_99_zs1_99_l00_X9_forms_40 : zT 2 := @Prod.mk (zT 1) (zT 1) ((10, 46656, 18), (11, 720, 18)) zk_99_zs1_99_l00_X9_forms_3
noncomputable def zk_99_zs1_99_l00_X9_forms_41 : zT 3 := @Prod.mk (zT 2) (zT 2) zk_99_zs1_99_l00_X9_forms_40 (((0, 256, zun 40 256 4294967296), (0, 11, bg_251)), zO1)
noncomputable def h1_X9_forms_26 : zH 4 := (show zT 4 from ((zk_99_zs1_99_l00_X9_forms_39, zk_99_zs1_99_l00_X9_forms_33), zk_99_zs1_99_l00_X9_forms_41), (14, (0, 0)))
theorem ev_X9_forms_26 : f_X9_formsa [zR 1, zI 2] h0_X9_forms_26 (zrk (zU) h1_X9_forms_26) = true := by decide +kernel
noncomputable def g_X9_forms_26 {d : Nat} : List zV → zH d → zP d → Bool := zsmyM [(0, 0), (1, 21), (1, 20), (1, 22), (1, 33), (1, 3), (1, 31), (1, 32), (1, 26), (1, 27), (1, 29), (1, 35), (1, 34), (1, 36)] [zR 1, zI 2] h0_X9_forms_26 (zU) h1_X9_forms_26
theorem mg_X9_forms_26 {d : Nat} : zMet (d := d) X_X9_forms yX9_forms 19 g_X9_forms_26 := zMet_smM m_X9_formsa ev_X9_forms_26
noncomputable def zk_99_zs1_99_l00_X9_forms_42 : zT 2 := @Prod.mk (zT 1) (zT 1) ((25, 63, bg_252), (0, 11, bg_148)) ((0, 11, bg_149), (0, 456, bg_43))
noncomputable def h0_X9_forms_27 : zH 4 := (show zT 4 from ((zk_99_zs1_99_l00_X9_forms_42, zk_99_zs1_99_l00_X9_forms_32), (zk_99_zs1_99_l00_X9_forms_40, zk_99_zs1_99_l00_X9_forms_4)), (14, (0, 0)))
noncomputable def zk_99_zs1_99_l00_X9_forms_43 : zT 2 := @Prod.mk (zT 1) (zT 1) ((10, 46656, 74), (11, 720, 74)) zk_99_zs1_99_l00_X9_forms_3
noncomputable def zk_99_zs1_99_l00_X9_forms_44 : zT 3 := @Prod.mk (zT 2) (zT 2) zk_99_zs1_99_l00_X9_forms_43 (((0, 256, zun 40 256 4294967296), (0, 11, bg_253)), zO1)
noncomputable def h1_X9_forms_27 : zH 4 := (show zT 4 from ((zk_99_zs1_99_l00_X9_forms_42, zk_99_zs1_99_l00_X9_forms_33), zk_99_zs1_99_l00_X9_forms_44), (14, (0, 0)))
theorem ev_X9_forms_27 : f_X9_formsa [zR 1, zI 3] h0_X9_forms_27 (zrk (zU) h1_X9_forms_27) = true := by decide +kernel
noncomputable def g_X9_forms_27 {d : Nat} : List zV → zH d → zP d → Bool := zsmyM [(0, 0), (1, 21), (1, 20), (1, 22), (1, 33), (1, 3), (1, 31), (1, 32), (1, 26), (1, 27), (1, 29), (1, 35), (1, 34), (1, 36)] [zR 1, zI 3] h0_X9_forms_27 (zU) h1_X9_forms_27
theorem mg_X9_forms_27 {d : Nat} : zMet (d := d) X_X9_forms yX9_forms 19 g_X9_forms_27 := zMet_smM m_X9_formsa ev_X9_forms_27
noncomputable def zk_99_zs1_99_l00_X9_forms_45 : zT 2 := @Prod.mk (zT 1) (zT 1) ((25, 63, bg_254), (0, 11, bg_151)) ((0, 11, bg_152), (0, 456, bg_46))
noncomputable def h0_X9_forms_28 : zH 4 := (show zT 4 from ((zk_99_zs1_99_l00_X9_forms_45, zk_99_zs1_99_l00_X9_forms_32), (zk_99_zs1_99_l00_X9_forms_43, zk_99_zs1_99_l00_X9_forms_4)), (14, (0, 0)))
noncomputable def zk_99_zs1_99_l00_X9_forms_46 : zT 3 := @Prod.mk (zT 2) (zT 2) (((10, 46656, 585), (11, 720, 585)), zk_99_zs1_99_l00_X9_forms_3) (((0, 256, zun 40 256 4294967296), (0, 11, bg_255)), zO1)
noncomputable def h1_X9_forms_28 : zH 4 := (show zT 4 from ((zk_99_zs1_99_l00_X9_forms_45, zk_99_zs1_99_l00_X9_forms_33), zk_99_zs1_99_l00_X9_forms_46), (14, (0, 0)))
theorem ev_X9_forms_28 : f_X9_formsa [zR 1, zI 4] h0_X9_forms_28 (zrk (zU) h1_X9_forms_28) = true := by decide +kernel
noncomputable def g_X9_forms_28 {d : Nat} : List zV → zH d → zP d → Bool := zsmyM [(0, 0), (1, 21), (1, 20), (1, 22), (1, 33), (1, 3), (1, 31), (1, 32), (1, 26), (1, 27), (1, 29), (1, 35), (1, 34), (1, 36)] [zR 1, zI 4] h0_X9_forms_28 (zU) h1_X9_forms_28
theorem mg_X9_forms_28 {d : Nat} : zMet (d := d) X_X9_forms yX9_forms 19 g_X9_forms_28 := zMet_smM m_X9_formsa ev_X9_forms_28
noncomputable def h0_X9_forms_29 : zH 4 := (show zT 4 from (((((25, 63, bg_256), (0, 11, bg_8)), ((0, 11, bg_131), (0, 456, bg_34))), zk_99_zs1_99_l00_X9_forms_32), zk_99_zs1_99_l00_X9_forms_5), (14, (0, 0)))
noncomputable def h1_X9_forms_29 : zH 4 := (show zT 4 from (((((25, 63, bg_257), (0, 11, bg_8)), ((0, 11, bg_131), (0, 456, bg_34))), zk_99_zs1_99_l00_X9_forms_33), zk_99_zs1_99_l00_X9_forms_35), (14, (0, 0)))
theorem ev_X9_forms_29 : f_X9_formsa [zR 1, zI 0] h0_X9_forms_29 (zrk (zU) h1_X9_forms_29) = true := by decide +kernel
noncomputable def g_X9_forms_29 {d : Nat} : List zV → zH d → zP d → Bool := zsmyM [(0, 0), (1, 21), (1, 20), (1, 22), (1, 33), (1, 3), (1, 31), (1, 32), (1, 26), (1, 27), (1, 29), (1, 35), (1, 34), (1, 36)] [zR 1, zI 0] h0_X9_forms_29 (zU) h1_X9_forms_29
theorem mg_X9_forms_29 {d : Nat} : zMet (d := d) X_X9_forms yX9_forms 19 g_X9_forms_29 := zMet_smM m_X9_formsa ev_X9_forms_29
noncomputable def zk_99_zs1_99_l00_X9_forms_47 : zT 2 := @Prod.mk (zT 1) (zT 1) ((25, 63, bg_258), (0, 11, bg_143)) ((0, 11, bg_135), (0, 456, bg_37))
noncomputable def h0_X9_forms_30 : zH 4 := (show zT 4 from ((zk_99_zs1_99_l00_X9_forms_47, zk_99_zs1_99_l00_X9_forms_32), (zk_99_zs1_99_l00_X9_forms_34, zk_99_zs1_99_l00_X9_forms_4)), (14, (0, 0)))
noncomputable def h1_X9_forms_30 : zH 4 := (show zT 4 from ((zk_99_zs1_99_l00_X9_forms_47, zk_99_zs1_99_l00_X9_forms_33), zk_99_zs1_99_l00_X9_forms_38), (14, (0, 0)))
theorem ev_X9_forms_30 : f_X9_formsa [zR 1, zI 1] h0_X9_forms_30 (zrk (zU) h1_X9_forms_30) = true := by decide +kernel
noncomputable def g_X9_forms_30 {d : Nat} : List zV → zH d → zP d → Bool := zsmyM [(0, 0), (1, 21), (1, 20), (1, 22), (1, 33), (1, 3), (1, 31), (1, 32), (1, 26), (1, 27), (1, 29), (1, 35), (1, 34), (1, 36)] [zR 1, zI 1] h0_X9_forms_30 (zU) h1_X9_forms_30
theorem mg_X9_forms_30 {d : Nat} : zMet (d := d) X_X9_forms yX9_forms 19 g_X9_forms_30 := zMet_smM m_X9_formsa ev_X9_forms_30
noncomputable def zk_99_zs1_99_l00_X9_forms_48 : zT 2 := @Prod.mk (zT 1) (zT 1) ((25, 63, bg_259), (0, 11, bg_145)) ((0, 11, bg_146), (0, 456, bg_40))
noncomputable def h0_X9_forms_31 : zH 4 := (show zT 4 from ((zk_99_zs1_99_l00_X9_forms_48, zk_99_zs1_99_l00_X9_forms_32), (zk_99_zs1_99_l00_X9_forms_37, zk_99_zs1_99_l00_X9_forms_4)), (14, (0, 0)))
noncomputable def h1_X9_forms_31 : zH 4 := (show zT 4 from ((zk_99_zs1_99_l00_X9_forms_48, zk_99_zs1_99_l00_X9_forms_33), zk_99_zs1_99_l00_X9_forms_41), (14, (0, 0)))
theorem ev_X9_forms_31 : f_X9_formsa [zR 1, zI 2] h0_X9_forms_31 (zrk (zU) h1_X9_forms_31) = true := by decide +kernel
noncomputable def g_X9_forms_31 {d : Nat} : List zV → zH d → zP d → Bool := zsmyM [(0, 0), (1, 21), (1, 20), (1, 22), (1, 33), (1, 3), (1, 31), (1, 32), (1, 26), (1, 27), (1, 29), (1, 35), (1, 34), (1, 36)] [zR 1, zI 2] h0_X9_forms_31 (zU) h1_X9_forms_31
theorem mg_X9_forms_31 {d : Nat} : zMet (d := d) X_X9_forms yX9_forms 19 g_X9_forms_31 := zMet_smM m_X9_formsa ev_X9_forms_31
noncomputable def zk_99_zs1_99_l00_X9_forms_49 : zT 2 := @Prod.mk (zT 1) (zT 1) ((25, 63, bg_260), (0, 11, bg_148)) ((0, 11, bg_149), (0, 456, bg_43))
noncomputable def h0_X9_forms_32 : zH 4 := (show zT 4 from ((zk_99_zs1_99_l00_X9_forms_49, zk_99_zs1_99_l00_X9_forms_32), (zk_99_zs1_99_l00_X9_forms_40, zk_99_zs1_99_l00_X9_forms_4)), (14, (0, 0)))
noncomputable def h1_X9_forms_32 : zH 4 := (show zT 4 from ((zk_99_zs1_99_l00_X9_forms_49, zk_99_zs1_99_l00_X9_forms_33), zk_99_zs1_99_l00_X9_forms_44), (14, (0, 0)))
theorem ev_X9_forms_32 : f_X9_formsa [zR 1, zI 3] h0_X9_forms_32 (zrk (zU) h1_X9_forms_32) = true := by decide +kernel
noncomputable def g_X9_forms_32 {d : Nat} : List zV → zH d → zP d → Bool := zsmyM [(0, 0), (1, 21), (1, 20), (1, 22), (1, 33), (1, 3), (1, 31), (1, 32), (1, 26), (1, 27), (1, 29), (1, 35), (1, 34), (1, 36)] [zR 1, zI 3] h0_X9_forms_32 (zU) h1_X9_forms_32
theorem mg_X9_forms_32 {d : Nat} : zMet (d := d) X_X9_forms yX9_forms 19 g_X9_forms_32 := zMet_smM m_X9_formsa ev_X9_forms_32
noncomputable def zk_99_zs1_99_l00_X9_forms_50 : zT 2 := @Prod.mk (zT 1) (zT 1) ((25, 63, bg_261), (0, 11, bg_151)) ((0, 11, bg_152), (0, 456, bg_46))
noncomputable def h0_X9_forms_33 : zH 4 := (show zT 4 from ((zk_99_zs1_99_l00_X9_forms_50, zk_99_zs1_99_l00_X9_forms_32), (zk_99_zs1_99_l00_X9_forms_43, zk_99_zs1_99_l00_X9_forms_4)), (14, (0, 0)))
noncomputable def h1_X9_forms_33 : zH 4 := (show zT 4 from ((zk_99_zs1_99_l00_X9_forms_50, zk_99_zs1_99_l00_X9_forms_33), zk_99_zs1_99_l00_X9_forms_46), (14, (0, 0)))
theorem ev_X9_forms_33 : f_X9_formsa [zR 1, zI 4] h0_X9_forms_33 (zrk (zU) h1_X9_forms_33) = true := by decide +kernel
noncomputable def g_X9_forms_33 {d : Nat} : List zV → zH d → zP d → Bool := zsmyM [(0, 0), (1, 21), (1, 20), (1, 22), (1, 33), (1, 3), (1, 31), (1, 32), (1, 26), (1, 27), (1, 29), (1, 35), (1, 34), (1, 36)] [zR 1, zI 4] h0_X9_forms_33 (zU) h1_X9_forms_33
theorem mg_X9_forms_33 {d : Nat} : zMet (d := d) X_X9_forms yX9_forms 19 g_X9_forms_33 := zMet_smM m_X9_formsa ev_X9_forms_33
noncomputable def h0_X9_forms_34 : zH 4 := (show zT 4 from (((((25, 63, bg_262), (0, 11, bg_8)), ((0, 11, bg_131), (0, 456, bg_34))), zk_99_zs1_99_l00_X9_forms_32), zk_99_zs1_99_l00_X9_forms_5), (14, (0, 0)))
noncomputable def h1_X9_forms_34 : zH 4 := (show zT 4 from (((((25, 63, bg_263), (0, 11, bg_8)), ((0, 11, bg_131), (0, 456, bg_34))), zk_99_zs1_99_l00_X9_forms_33), zk_99_zs1_99_l00_X9_forms_35), (14, (0, 0)))
theorem ev_X9_forms_34 : f_X9_formsa [zR 1, zI 0] h0_X9_forms_34 (zrk (zU) h1_X9_forms_34) = true := by decide +kernel
noncomputable def g_X9_forms_34 {d : Nat} : List zV → zH d → zP d → Bool := zsmyM [(0, 0), (1, 21), (1, 20), (1, 22), (1, 33), (1, 3), (1, 31), (1, 32), (1, 26), (1, 27), (1, 29), (1, 35), (1, 34), (1, 36)] [zR 1, zI 0] h0_X9_forms_34 (zU) h1_X9_forms_34
theorem mg_X9_forms_34 {d : Nat} : zMet (d := d) X_X9_forms yX9_forms 19 g_X9_forms_34 := zMet_smM m_X9_formsa ev_X9_forms_34
noncomputable def zk_99_zs1_99_l00_X9_forms_51 : zT 2 := @Prod.mk (zT 1) (zT 1) ((25, 63, bg_264), (0, 11, bg_143)) ((0, 11, bg_135), (0, 456, bg_37))
noncomputable def h0_X9_forms_35 : zH 4 := (show zT 4 from ((zk_99_zs1_99_l00_X9_forms_51, zk_99_zs1_99_l00_X9_forms_32), (zk_99_zs1_99_l00_X9_forms_34, zk_99_zs1_99_l00_X9_forms_4)), (14, (0, 0)))
noncomputable def h1_X9_forms_35 : zH 4 := (show zT 4 from ((zk_99_zs1_99_l00_X9_forms_51, zk_99_zs1_99_l00_X9_forms_33), zk_99_zs1_99_l00_X9_forms_38), (14, (0, 0)))
theorem ev_X9_forms_35 : f_X9_formsa [zR 1, zI 1] h0_X9_forms_35 (zrk (zU) h1_X9_forms_35) = true := by decide +kernel
noncomputable def g_X9_forms_35 {d : Nat} : List zV → zH d → zP d → Bool := zsmyM [(0, 0), (1, 21), (1, 20), (1, 22), (1, 33), (1, 3), (1, 31), (1, 32), (1, 26), (1, 27), (1, 29), (1, 35), (1, 34), (1, 36)] [zR 1, zI 1] h0_X9_forms_35 (zU) h1_X9_forms_35
theorem mg_X9_forms_35 {d : Nat} : zMet (d := d) X_X9_forms yX9_forms 19 g_X9_forms_35 := zMet_smM m_X9_formsa ev_X9_forms_35
noncomputable def zk_99_zs1_99_l00_X9_forms_52 : zT 2 := @Prod.mk (zT 1) (zT 1) ((25, 63, bg_265), (0, 11, bg_145)) ((0, 11, bg_146), (0, 456, bg_40))
noncomputable def h0_X9_forms_36 : zH 4 := (show zT 4 from ((zk_99_zs1_99_l00_X9_forms_52, zk_99_zs1_99_l00_X9_forms_32), (zk_99_zs1_99_l00_X9_forms_37, zk_99_zs1_99_l00_X9_forms_4)), (14, (0, 0)))
noncomputable def h1_X9_forms_36 : zH 4 := (show zT 4 from ((zk_99_zs1_99_l00_X9_forms_52, zk_99_zs1_99_l00_X9_forms_33), zk_99_zs1_99_l00_X9_forms_41), (14, (0, 0)))
theorem ev_X9_forms_36 : f_X9_formsa [zR 1, zI 2] h0_X9_forms_36 (zrk (zU) h1_X9_forms_36) = true := by decide +kernel
noncomputable def g_X9_forms_36 {d : Nat} : List zV → zH d → zP d → Bool := zsmyM [(0, 0), (1, 21), (1, 20), (1, 22), (1, 33), (1, 3), (1, 31), (1, 32), (1, 26), (1, 27), (1, 29), (1, 35), (1, 34), (1, 36)] [zR 1, zI 2] h0_X9_forms_36 (zU) h1_X9_forms_36
theorem mg_X9_forms_36 {d : Nat} : zMet (d := d) X_X9_forms yX9_forms 19 g_X9_forms_36 := zMet_smM m_X9_formsa ev_X9_forms_36
noncomputable def zk_99_zs1_99_l00_X9_forms_53 : zT 2 := @Prod.mk (zT 1) (zT 1) ((25, 63, bg_266), (0, 11, bg_148)) ((0, 11, bg_149), (0, 456, bg_43))
noncomputable def h0_X9_forms_37 : zH 4 := (show zT 4 from ((zk_99_zs1_99_l00_X9_forms_53, zk_99_zs1_99_l00_X9_forms_32), (zk_99_zs1_99_l00_X9_forms_40, zk_99_zs1_99_l00_X9_forms_4)), (14, (0, 0)))
noncomputable def h1_X9_forms_37 : zH 4 := (show zT 4 from ((zk_99_zs1_99_l00_X9_forms_53, zk_99_zs1_99_l00_X9_forms_33), zk_99_zs1_99_l00_X9_forms_44), (14, (0, 0)))
theorem ev_X9_forms_37 : f_X9_formsa [zR 1, zI 3] h0_X9_forms_37 (zrk (zU) h1_X9_forms_37) = true := by decide +kernel
noncomputable def g_X9_forms_37 {d : Nat} : List zV → zH d → zP d → Bool := zsmyM [(0, 0), (1, 21), (1, 20), (1, 22), (1, 33), (1, 3), (1, 31), (1, 32), (1, 26), (1, 27), (1, 29), (1, 35), (1, 34), (1, 36)] [zR 1, zI 3] h0_X9_forms_37 (zU) h1_X9_forms_37
theorem mg_X9_forms_37 {d : Nat} : zMet (d := d) X_X9_forms yX9_forms 19 g_X9_forms_37 := zMet_smM m_X9_formsa ev_X9_forms_37
noncomputable def zk_99_zs1_99_l00_X9_forms_54 : zT 2 := @Prod.mk (zT 1) (zT 1) ((25, 63, bg_267), (0, 11, bg_151)) ((0, 11, bg_152), (0, 456, bg_46))
noncomputable def h0_X9_forms_38 : zH 4 := (show zT 4 from ((zk_99_zs1_99_l00_X9_forms_54, zk_99_zs1_99_l00_X9_forms_32), (zk_99_zs1_99_l00_X9_forms_43, zk_99_zs1_99_l00_X9_forms_4)), (14, (0, 0)))
noncomputable def h1_X9_forms_38 : zH 4 := (show zT 4 from ((zk_99_zs1_99_l00_X9_forms_54, zk_99_zs1_99_l00_X9_forms_33), zk_99_zs1_99_l00_X9_forms_46), (14, (0, 0)))
theorem ev_X9_forms_38 : f_X9_formsa [zR 1, zI 4] h0_X9_forms_38 (zrk (zU) h1_X9_forms_38) = true := by decide +kernel
noncomputable def g_X9_forms_38 {d : Nat} : List zV → zH d → zP d → Bool := zsmyM [(0, 0), (1, 21), (1, 20), (1, 22), (1, 33), (1, 3), (1, 31), (1, 32), (1, 26), (1, 27), (1, 29), (1, 35), (1, 34), (1, 36)] [zR 1, zI 4] h0_X9_forms_38 (zU) h1_X9_forms_38
theorem mg_X9_forms_38 {d : Nat} : zMet (d := d) X_X9_forms yX9_forms 19 g_X9_forms_38 := zMet_smM m_X9_formsa ev_X9_forms_38
noncomputable def h0_X9_forms_39 : zH 4 := (show zT 4 from (((((25, 63, bg_268), (0, 11, bg_8)), ((0, 11, bg_131), (0, 456, bg_34))), zk_99_zs1_99_l00_X9_forms_32), zk_99_zs1_99_l00_X9_forms_5), (14, (0, 0)))
noncomputable def h1_X9_forms_39 : zH 4 := (show zT 4 from (((((25, 63, bg_269), (0, 11, bg_8)), ((0, 11, bg_131), (0, 456, bg_34))), zk_99_zs1_99_l00_X9_forms_33), zk_99_zs1_99_l00_X9_forms_35), (14, (0, 0)))
theorem ev_X9_forms_39 : f_X9_formsa [zR 1, zI 0] h0_X9_forms_39 (zrk (zU) h1_X9_forms_39) = true := by decide +kernel
noncomputable def g_X9_forms_39 {d : Nat} : List zV → zH d → zP d → Bool := zsmyM [(0, 0), (1, 21), (1, 20), (1, 22), (1, 33), (1, 3), (1, 31), (1, 32), (1, 26), (1, 27), (1, 29), (1, 35), (1, 34), (1, 36)] [zR 1, zI 0] h0_X9_forms_39 (zU) h1_X9_forms_39
theorem mg_X9_forms_39 {d : Nat} : zMet (d := d) X_X9_forms yX9_forms 19 g_X9_forms_39 := zMet_smM m_X9_formsa ev_X9_forms_39
noncomputable def zk_99_zs1_99_l00_X9_forms_55 : zT 2 := @Prod.mk (zT 1) (zT 1) ((25, 63, bg_270), (0, 11, bg_143)) ((0, 11, bg_135), (0, 456, bg_37))
noncomputable def h0_X9_forms_40 : zH 4 := (show zT 4 from ((zk_99_zs1_99_l00_X9_forms_55, zk_99_zs1_99_l00_X9_forms_32), (zk_99_zs1_99_l00_X9_forms_34, zk_99_zs1_99_l00_X9_forms_4)), (14, (0, 0)))
noncomputable def h1_X9_forms_40 : zH 4 := (show zT 4 from ((zk_99_zs1_99_l00_X9_forms_55, zk_99_zs1_99_l00_X9_forms_33), zk_99_zs1_99_l00_X9_forms_38), (14, (0, 0)))
theorem ev_X9_forms_40 : f_X9_formsa [zR 1, zI 1] h0_X9_forms_40 (zrk (zU) h1_X9_forms_40) = true := by decide +kernel
noncomputable def g_X9_forms_40 {d : Nat} : List zV → zH d → zP d → Bool := zsmyM [(0, 0), (1, 21), (1, 20), (1, 22), (1, 33), (1, 3), (1, 31), (1, 32), (1, 26), (1, 27), (1, 29), (1, 35), (1, 34), (1, 36)] [zR 1, zI 1] h0_X9_forms_40 (zU) h1_X9_forms_40
theorem mg_X9_forms_40 {d : Nat} : zMet (d := d) X_X9_forms yX9_forms 19 g_X9_forms_40 := zMet_smM m_X9_formsa ev_X9_forms_40
noncomputable def zk_99_zs1_99_l00_X9_forms_56 : zT 2 := @Prod.mk (zT 1) (zT 1) ((25, 63, bg_271), (0, 11, bg_145)) ((0, 11, bg_146), (0, 456, bg_40))
noncomputable def h0_X9_forms_41 : zH 4 := (show zT 4 from ((zk_99_zs1_99_l00_X9_forms_56, zk_99_zs1_99_l00_X9_forms_32), (zk_99_zs1_99_l00_X9_forms_37, zk_99_zs1_99_l00_X9_forms_4)), (14, (0, 0)))
noncomputable def h1_X9_forms_41 : zH 4 := (show zT 4 from ((zk_99_zs1_99_l00_X9_forms_56, zk_99_zs1_99_l00_X9_forms_33), zk_99_zs1_99_l00_X9_forms_41), (14, (0, 0)))
theorem ev_X9_forms_41 : f_X9_formsa [zR 1, zI 2] h0_X9_forms_41 (zrk (zU) h1_X9_forms_41) = true := by decide +kernel
noncomputable def g_X9_forms_41 {d : Nat} : List zV → zH d → zP d → Bool := zsmyM [(0, 0), (1, 21), (1, 20), (1, 22), (1, 33), (1, 3), (1, 31), (1, 32), (1, 26), (1, 27), (1, 29), (1, 35), (1, 34), (1, 36)] [zR 1, zI 2] h0_X9_forms_41 (zU) h1_X9_forms_41
theorem mg_X9_forms_41 {d : Nat} : zMet (d := d) X_X9_forms yX9_forms 19 g_X9_forms_41 := zMet_smM m_X9_formsa ev_X9_forms_41
noncomputable def zk_99_zs1_99_l00_X9_forms_57 : zT 2 := @Prod.mk (zT 1) (zT 1) ((25, 63, bg_272), (0, 11, bg_148)) ((0, 11, bg_149), (0, 456, bg_43))
noncomputable def h0_X9_forms_42 : zH 4 := (show zT 4 from ((zk_99_zs1_99_l00_X9_forms_57, zk_99_zs1_99_l00_X9_forms_32), (zk_99_zs1_99_l00_X9_forms_40, zk_99_zs1_99_l00_X9_forms_4)), (14, (0, 0)))
noncomputable def h1_X9_forms_42 : zH 4 := (show zT 4 from ((zk_99_zs1_99_l00_X9_forms_57, zk_99_zs1_99_l00_X9_forms_33), zk_99_zs1_99_l00_X9_forms_44), (14, (0, 0)))
theorem ev_X9_forms_42 : f_X9_formsa [zR 1, zI 3] h0_X9_forms_42 (zrk (zU) h1_X9_forms_42) = true := by decide +kernel
noncomputable def g_X9_forms_42 {d : Nat} : List zV → zH d → zP d → Bool := zsmyM [(0, 0), (1, 21), (1, 20), (1, 22), (1, 33), (1, 3), (1, 31), (1, 32), (1, 26), (1, 27), (1, 29), (1, 35), (1, 34), (1, 36)] [zR 1, zI 3] h0_X9_forms_42 (zU) h1_X9_forms_42
theorem mg_X9_forms_42 {d : Nat} : zMet (d := d) X_X9_forms yX9_forms 19 g_X9_forms_42 := zMet_smM m_X9_formsa ev_X9_forms_42
noncomputable def zk_99_zs1_99_l00_X9_forms_58 : zT 2 := @Prod.mk (zT 1) (zT 1) ((25, 63, bg_273), (0, 11, bg_151)) ((0, 11, bg_152), (0, 456, bg_46))
noncomputable def h0_X9_forms_43 : zH 4 := (show zT 4 from ((zk_99_zs1_99_l00_X9_forms_58, zk_99_zs1_99_l00_X9_forms_32), (zk_99_zs1_99_l00_X9_forms_43, zk_99_zs1_99_l00_X9_forms_4)), (14, (0, 0)))
noncomputable def h1_X9_forms_43 : zH 4 := (show zT 4 from ((zk_99_zs1_99_l00_X9_forms_58, zk_99_zs1_99_l00_X9_forms_33), zk_99_zs1_99_l00_X9_forms_46), (14, (0, 0)))
theorem ev_X9_forms_43 : f_X9_formsa [zR 1, zI 4] h0_X9_forms_43 (zrk (zU) h1_X9_forms_43) = true := by decide +kernel
noncomputable def g_X9_forms_43 {d : Nat} : List zV → zH d → zP d → Bool := zsmyM [(0, 0), (1, 21), (1, 20), (1, 22), (1, 33), (1, 3), (1, 31), (1, 32), (1, 26), (1, 27), (1, 29), (1, 35), (1, 34), (1, 36)] [zR 1, zI 4] h0_X9_forms_43 (zU) h1_X9_forms_43
theorem mg_X9_forms_43 {d : Nat} : zMet (d := d) X_X9_forms yX9_forms 19 g_X9_forms_43 := zMet_smM m_X9_formsa ev_X9_forms_43
noncomputable def zk_99_zs1_99_l00_X9_forms_59 : zT 2 := @Prod.mk (zT 1) (zT 1) (zk_99_zs1_99_l00_X9_forms_0, (0, 66, bg_5)) zk_99_zs1_99_l00_X9_forms_1
noncomputable def h0_X9_forms_44 : zH 4 := (show zT 4 from (((((25, 63, bg_274), (0, 11, bg_8)), ((0, 11, bg_131), (0, 456, bg_49))), zk_99_zs1_99_l00_X9_forms_59), zk_99_zs1_99_l00_X9_forms_5), (14, (0, 0)))
noncomputable def zk_99_zs1_99_l00_X9_forms_60 : zT 2 := @Prod.mk (zT 1) (zT 1) ((0, 7, 0x100000000000000000500000000040000000003000000000200000000010100000000), (0, 66, bg_5)) zk_99_zs1_99_l00_X9_forms_1
noncomputable def zk_99_zs1_99_l00_X9_forms_61 : zT 2 := @Prod.mk (zT 1) (zT 1) ((10, 46656, 5), (11, 720, 5)) zk_99_zs1_99_l00_X9_forms_3
noncomputable def zk_99_zs1_99_l00_X9_forms_62 : zT 3 := @Prod.mk (zT 2) (zT 2) zk_99_zs1_99_l00_X9_forms_61 (((0, 256, zun 40 256 4294967296), (0, 11, bg_208)), zO1)
noncomputable def h1_X9_forms_44 : zH 4 := (show zT 4 from (((((25, 63, bg_275), (0, 11, bg_8)), ((0, 11, bg_131), (0, 456, bg_49))), zk_99_zs1_99_l00_X9_forms_60), zk_99_zs1_99_l00_X9_forms_62), (14, (0, 0)))
theorem ev_X9_forms_44 : f_X9_formsa [zR 1, zI 0] h0_X9_forms_44 (zrk (zU) h1_X9_forms_44) = true := by decide +kernel
noncomputable def g_X9_forms_44 {d : Nat} : List zV → zH d → zP d → Bool := zsmyM [(0, 0), (1, 21), (1, 20), (1, 22), (1, 33), (1, 3), (1, 31), (1, 32), (1, 26), (1, 27), (1, 29), (1, 35), (1, 34), (1, 36)] [zR 1, zI 0] h0_X9_forms_44 (zU) h1_X9_forms_44
theorem mg_X9_forms_44 {d : Nat} : zMet (d := d) X_X9_forms yX9_forms 19 g_X9_forms_44 := zMet_smM m_X9_formsa ev_X9_forms_44
noncomputable def zk_99_zs1_99_l00_X9_forms_63 : zT 2 := @Prod.mk (zT 1) (zT 1) ((25, 63, bg_276), (0, 11, bg_155)) ((0, 11, bg_135), (0, 456, bg_52))
noncomputable def h0_X9_forms_45 : zH 4 := (show zT 4 from ((zk_99_zs1_99_l00_X9_forms_63, zk_99_zs1_99_l00_X9_forms_59), (zk_99_zs1_99_l00_X9_forms_61, zk_99_zs1_99_l00_X9_forms_4)), (14, (0, 0)))
noncomputable def zk_99_zs1_99_l00_X9_forms_64 : zT 2 := @Prod.mk (zT 1) (zT 1) ((10, 46656, 12), (11, 720, 12)) zk_99_zs1_99_l00_X9_forms_3
noncomputable def zk_99_zs1_99_l00_X9_forms_65 : zT 3 := @Prod.mk (zT 2) (zT 2) zk_99_zs1_99_l00_X9_forms_64 (((0, 256, zun 40 256 4294967296), (0, 11, bg_277)), zO1)
noncomputable def h1_X9_forms_45 : zH 4 := (show zT 4 from ((zk_99_zs1_99_l00_X9_forms_63, zk_99_zs1_99_l00_X9_forms_60), zk_99_zs1_99_l00_X9_forms_65), (14, (0, 0)))
theorem ev_X9_forms_45 : f_X9_formsa [zR 1, zI 1] h0_X9_forms_45 (zrk (zU) h1_X9_forms_45) = true := by decide +kernel
noncomputable def g_X9_forms_45 {d : Nat} : List zV → zH d → zP d → Bool := zsmyM [(0, 0), (1, 21), (1, 20), (1, 22), (1, 33), (1, 3), (1, 31), (1, 32), (1, 26), (1, 27), (1, 29), (1, 35), (1, 34), (1, 36)] [zR 1, zI 1] h0_X9_forms_45 (zU) h1_X9_forms_45
theorem mg_X9_forms_45 {d : Nat} : zMet (d := d) X_X9_forms yX9_forms 19 g_X9_forms_45 := zMet_smM m_X9_formsa ev_X9_forms_45
noncomputable def zk_99_zs1_99_l00_X9_forms_66 : zT 2 := @Prod.mk (zT 1) (zT 1) ((25, 63, bg_278), (0, 11, bg_157)) ((0, 11, bg_158), (0, 456, bg_55))
noncomputable def h0_X9_forms_46 : zH 4 := (show zT 4 from ((zk_99_zs1_99_l00_X9_forms_66, zk_99_zs1_99_l00_X9_forms_59), (zk_99_zs1_99_l00_X9_forms_64, zk_99_zs1_99_l00_X9_forms_4)), (14, (0, 0)))
noncomputable def zk_99_zs1_99_l00_X9_forms_67 : zT 2 := @Prod.mk (zT 1) (zT 1) ((10, 46656, 19), (11, 720, 19)) zk_99_zs1_99_l00_X9_forms_3
noncomputable def zk_99_zs1_99_l00_X9_forms_68 : zT 3 := @Prod.mk (zT 2) (zT 2) zk_99_zs1_99_l00_X9_forms_67 (((0, 256, zun 40 256 4294967296), (0, 11, bg_279)), zO1)
noncomputable def h1_X9_forms_46 : zH 4 := (show zT 4 from ((zk_99_zs1_99_l00_X9_forms_66, zk_99_zs1_99_l00_X9_forms_60), zk_99_zs1_99_l00_X9_forms_68), (14, (0, 0)))
theorem ev_X9_forms_46 : f_X9_formsa [zR 1, zI 2] h0_X9_forms_46 (zrk (zU) h1_X9_forms_46) = true := by decide +kernel
noncomputable def g_X9_forms_46 {d : Nat} : List zV → zH d → zP d → Bool := zsmyM [(0, 0), (1, 21), (1, 20), (1, 22), (1, 33), (1, 3), (1, 31), (1, 32), (1, 26), (1, 27), (1, 29), (1, 35), (1, 34), (1, 36)] [zR 1, zI 2] h0_X9_forms_46 (zU) h1_X9_forms_46
theorem mg_X9_forms_46 {d : Nat} : zMet (d := d) X_X9_forms yX9_forms 19 g_X9_forms_46 := zMet_smM m_X9_formsa ev_X9_forms_46
noncomputable def zk_99_zs1_99_l00_X9_forms_69 : zT 2 := @Prod.mk (zT 1) (zT 1) ((25, 63, bg_280), (0, 11, bg_160)) ((0, 11, bg_161), (0, 456, bg_58))
noncomputable def h0_X9_forms_47 : zH 4 := (show zT 4 from ((zk_99_zs1_99_l00_X9_forms_69, zk_99_zs1_99_l00_X9_forms_59), (zk_99_zs1_99_l00_X9_forms_67, zk_99_zs1_99_l00_X9_forms_4)), (14, (0, 0)))
noncomputable def zk_99_zs1_99_l00_X9_forms_70 : zT 2 := @Prod.mk (zT 1) (zT 1) ((10, 46656, 75), (11, 720, 75)) zk_99_zs1_99_l00_X9_forms_3
noncomputable def zk_99_zs1_99_l00_X9_forms_71 : zT 3 := @Prod.mk (zT 2) (zT 2) zk_99_zs1_99_l00_X9_forms_70 (((0, 256, zun 40 256 4294967296), (0, 11, bg_281)), zO1)
noncomputable def h1_X9_forms_47 : zH 4 := (show zT 4 from ((zk_99_zs1_99_l00_X9_forms_69, zk_99_zs1_99_l00_X9_forms_60), zk_99_zs1_99_l00_X9_forms_71), (14, (0, 0)))
theorem ev_X9_forms_47 : f_X9_formsa [zR 1, zI 3] h0_X9_forms_47 (zrk (zU) h1_X9_forms_47) = true := by decide +kernel
noncomputable def g_X9_forms_47 {d : Nat} : List zV → zH d → zP d → Bool := zsmyM [(0, 0), (1, 21), (1, 20), (1, 22), (1, 33), (1, 3), (1, 31), (1, 32), (1, 26), (1, 27), (1, 29), (1, 35), (1, 34), (1, 36)] [zR 1, zI 3] h0_X9_forms_47 (zU) h1_X9_forms_47
theorem mg_X9_forms_47 {d : Nat} : zMet (d := d) X_X9_forms yX9_forms 19 g_X9_forms_47 := zMet_smM m_X9_formsa ev_X9_forms_47
noncomputable def zk_99_zs1_99_l00_X9_forms_72 : zT 2 := @Prod.mk (zT 1) (zT 1) ((25, 63, bg_282), (0, 11, bg_163)) ((0, 11, bg_164), (0, 456, bg_61))
noncomputable def h0_X9_forms_48 : zH 4 := (show zT 4 from ((zk_99_zs1_99_l00_X9_forms_72, zk_99_zs1_99_l00_X9_forms_59), (zk_99_zs1_99_l00_X9_forms_70, zk_99_zs1_99_l00_X9_forms_4)), (14, (0, 0)))
noncomputable def zk_99_zs1_99_l00_X9_forms_73 : zT 2 := @Prod.mk (zT 1) (zT 1) ((10, 46656, 82), (11, 720, 82)) zk_99_zs1_99_l00_X9_forms_3
noncomputable def zk_99_zs1_99_l00_X9_forms_74 : zT 3 := @Prod.mk (zT 2) (zT 2) zk_99_zs1_99_l00_X9_forms_73 (((0, 256, zun 40 256 4294967296), (0, 11, bg_283)), zO1)
noncomputable def h1_X9_forms_48 : zH 4 := (show zT 4 from ((zk_99_zs1_99_l00_X9_forms_72, zk_99_zs1_99_l00_X9_forms_60), zk_99_zs1_99_l00_X9_forms_74), (14, (0, 0)))
theorem ev_X9_forms_48 : f_X9_formsa [zR 1, zI 4] h0_X9_forms_48 (zrk (zU) h1_X9_forms_48) = true := by decide +kernel
noncomputable def g_X9_forms_48 {d : Nat} : List zV → zH d → zP d → Bool := zsmyM [(0, 0), (1, 21), (1, 20), (1, 22), (1, 33), (1, 3), (1, 31), (1, 32), (1, 26), (1, 27), (1, 29), (1, 35), (1, 34), (1, 36)] [zR 1, zI 4] h0_X9_forms_48 (zU) h1_X9_forms_48
theorem mg_X9_forms_48 {d : Nat} : zMet (d := d) X_X9_forms yX9_forms 19 g_X9_forms_48 := zMet_smM m_X9_formsa ev_X9_forms_48
noncomputable def zk_99_zs1_99_l00_X9_forms_75 : zT 2 := @Prod.mk (zT 1) (zT 1) ((25, 63, bg_284), (0, 11, bg_166)) ((0, 11, bg_167), (0, 456, bg_64))
noncomputable def h0_X9_forms_49 : zH 4 := (show zT 4 from ((zk_99_zs1_99_l00_X9_forms_75, zk_99_zs1_99_l00_X9_forms_59), (zk_99_zs1_99_l00_X9_forms_73, zk_99_zs1_99_l00_X9_forms_4)), (14, (0, 0)))
noncomputable def zk_99_zs1_99_l00_X9_forms_76 : zT 2 := @Prod.mk (zT 1) (zT 1) ((10, 46656, 586), (11, 720, 586)) zk_99_zs1_99_l00_X9_forms_3
noncomputable def zk_99_zs1_99_l00_X9_forms_77 : zT 3 := @Prod.mk (zT 2) (zT 2) zk_99_zs1_99_l00_X9_forms_76 (((0, 256, zun 40 256 4294967296), (0, 11, bg_285)), zO1)
noncomputable def h1_X9_forms_49 : zH 4 := (show zT 4 from ((zk_99_zs1_99_l00_X9_forms_75, zk_99_zs1_99_l00_X9_forms_60), zk_99_zs1_99_l00_X9_forms_77), (14, (0, 0)))
theorem ev_X9_forms_49 : f_X9_formsa [zR 1, zI 5] h0_X9_forms_49 (zrk (zU) h1_X9_forms_49) = true := by decide +kernel
noncomputable def g_X9_forms_49 {d : Nat} : List zV → zH d → zP d → Bool := zsmyM [(0, 0), (1, 21), (1, 20), (1, 22), (1, 33), (1, 3), (1, 31), (1, 32), (1, 26), (1, 27), (1, 29), (1, 35), (1, 34), (1, 36)] [zR 1, zI 5] h0_X9_forms_49 (zU) h1_X9_forms_49
theorem mg_X9_forms_49 {d : Nat} : zMet (d := d) X_X9_forms yX9_forms 19 g_X9_forms_49 := zMet_smM m_X9_formsa ev_X9_forms_49
noncomputable def zk_99_zs1_99_l00_X9_forms_78 : zT 2 := @Prod.mk (zT 1) (zT 1) ((25, 63, bg_286), (0, 11, bg_169)) ((0, 11, bg_170), (0, 456, bg_67))
noncomputable def h0_X9_forms_50 : zH 4 := (show zT 4 from ((zk_99_zs1_99_l00_X9_forms_78, zk_99_zs1_99_l00_X9_forms_59), (zk_99_zs1_99_l00_X9_forms_76, zk_99_zs1_99_l00_X9_forms_4)), (14, (0, 0)))
noncomputable def zk_99_zs1_99_l00_X9_forms_79 : zT 3 := @Prod.mk (zT 2) (zT 2) (((10, 46656, 4681), (11, 720, 4681)), zk_99_zs1_99_l00_X9_forms_3) (((0, 256, zun 40 256 4294967296), (0, 11, bg_287)), zO1)
noncomputable def h1_X9_forms_50 : zH 4 := (show zT 4 from ((zk_99_zs1_99_l00_X9_forms_78, zk_99_zs1_99_l00_X9_forms_60), zk_99_zs1_99_l00_X9_forms_79), (14, (0, 0)))
theorem ev_X9_forms_50 : f_X9_formsa [zR 1, zI 6] h0_X9_forms_50 (zrk (zU) h1_X9_forms_50) = true := by decide +kernel
noncomputable def g_X9_forms_50 {d : Nat} : List zV → zH d → zP d → Bool := zsmyM [(0, 0), (1, 21), (1, 20), (1, 22), (1, 33), (1, 3), (1, 31), (1, 32), (1, 26), (1, 27), (1, 29), (1, 35), (1, 34), (1, 36)] [zR 1, zI 6] h0_X9_forms_50 (zU) h1_X9_forms_50
theorem mg_X9_forms_50 {d : Nat} : zMet (d := d) X_X9_forms yX9_forms 19 g_X9_forms_50 := zMet_smM m_X9_formsa ev_X9_forms_50
noncomputable def h0_X9_forms_51 : zH 4 := (show zT 4 from (((((25, 63, bg_288), (0, 11, bg_8)), ((0, 11, bg_131), (0, 456, bg_49))), zk_99_zs1_99_l00_X9_forms_59), zk_99_zs1_99_l00_X9_forms_5), (14, (0, 0)))
noncomputable def h1_X9_forms_51 : zH 4 := (show zT 4 from (((((25, 63, bg_289), (0, 11, bg_8)), ((0, 11, bg_131), (0, 456, bg_49))), zk_99_zs1_99_l00_X9_forms_60), zk_99_zs1_99_l00_X9_forms_62), (14, (0, 0)))
theorem ev_X9_forms_51 : f_X9_formsa [zR 1, zI 0] h0_X9_forms_51 (zrk (zU) h1_X9_forms_51) = true := by decide +kernel
noncomputable def g_X9_forms_51 {d : Nat} : List zV → zH d → zP d → Bool := zsmyM [(0, 0), (1, 21), (1, 20), (1, 22), (1, 33), (1, 3), (1, 31), (1, 32), (1, 26), (1, 27), (1, 29), (1, 35), (1, 34), (1, 36)] [zR 1, zI 0] h0_X9_forms_51 (zU) h1_X9_forms_51
theorem mg_X9_forms_51 {d : Nat} : zMet (d := d) X_X9_forms yX9_forms 19 g_X9_forms_51 := zMet_smM m_X9_formsa ev_X9_forms_51
noncomputable def zk_99_zs1_99_l00_X9_forms_80 : zT 2 := @Prod.mk (zT 1) (zT 1) ((25, 63, bg_290), (0, 11, bg_155)) ((0, 11, bg_135), (0, 456, bg_52))
noncomputable def h0_X9_forms_52 : zH 4 := (show zT 4 from ((zk_99_zs1_99_l00_X9_forms_80, zk_99_zs1_99_l00_X9_forms_59), (zk_99_zs1_99_l00_X9_forms_61, zk_99_zs1_99_l00_X9_forms_4)), (14, (0, 0)))
noncomputable def h1_X9_forms_52 : zH 4 := (show zT 4 from ((zk_99_zs1_99_l00_X9_forms_80, zk_99_zs1_99_l00_X9_forms_60), zk_99_zs1_99_l00_X9_forms_65), (14, (0, 0)))
theorem ev_X9_forms_52 : f_X9_formsa [zR 1, zI 1] h0_X9_forms_52 (zrk (zU) h1_X9_forms_52) = true := by decide +kernel
noncomputable def g_X9_forms_52 {d : Nat} : List zV → zH d → zP d → Bool := zsmyM [(0, 0), (1, 21), (1, 20), (1, 22), (1, 33), (1, 3), (1, 31), (1, 32), (1, 26), (1, 27), (1, 29), (1, 35), (1, 34), (1, 36)] [zR 1, zI 1] h0_X9_forms_52 (zU) h1_X9_forms_52
theorem mg_X9_forms_52 {d : Nat} : zMet (d := d) X_X9_forms yX9_forms 19 g_X9_forms_52 := zMet_smM m_X9_formsa ev_X9_forms_52
noncomputable def zk_99_zs1_99_l00_X9_forms_81 : zT 2 := @Prod.mk (zT 1) (zT 1) ((25, 63, bg_291), (0, 11, bg_157)) ((0, 11, bg_158), (0, 456, bg_55))
noncomputable def h0_X9_forms_53 : zH 4 := (show zT 4 from ((zk_99_zs1_99_l00_X9_forms_81, zk_99_zs1_99_l00_X9_forms_59), (zk_99_zs1_99_l00_X9_forms_64, zk_99_zs1_99_l00_X9_forms_4)), (14, (0, 0)))
noncomputable def h1_X9_forms_53 : zH 4 := (show zT 4 from ((zk_99_zs1_99_l00_X9_forms_81, zk_99_zs1_99_l00_X9_forms_60), zk_99_zs1_99_l00_X9_forms_68), (14, (0, 0)))
theorem ev_X9_forms_53 : f_X9_formsa [zR 1, zI 2] h0_X9_forms_53 (zrk (zU) h1_X9_forms_53) = true := by decide +kernel
noncomputable def g_X9_forms_53 {d : Nat} : List zV → zH d → zP d → Bool := zsmyM [(0, 0), (1, 21), (1, 20), (1, 22), (1, 33), (1, 3), (1, 31), (1, 32), (1, 26), (1, 27), (1, 29), (1, 35), (1, 34), (1, 36)] [zR 1, zI 2] h0_X9_forms_53 (zU) h1_X9_forms_53
theorem mg_X9_forms_53 {d : Nat} : zMet (d := d) X_X9_forms yX9_forms 19 g_X9_forms_53 := zMet_smM m_X9_formsa ev_X9_forms_53
noncomputable def zk_99_zs1_99_l00_X9_forms_82 : zT 2 := @Prod.mk (zT 1) (zT 1) ((25, 63, bg_292), (0, 11, bg_160)) ((0, 11, bg_161), (0, 456, bg_58))
noncomputable def h0_X9_forms_54 : zH 4 := (show zT 4 from ((zk_99_zs1_99_l00_X9_forms_82, zk_99_zs1_99_l00_X9_forms_59), (zk_99_zs1_99_l00_X9_forms_67, zk_99_zs1_99_l00_X9_forms_4)), (14, (0, 0)))
noncomputable def h1_X9_forms_54 : zH 4 := (show zT 4 from ((zk_99_zs1_99_l00_X9_forms_82, zk_99_zs1_99_l00_X9_forms_60), zk_99_zs1_99_l00_X9_forms_71), (14, (0, 0)))
theorem ev_X9_forms_54 : f_X9_formsa [zR 1, zI 3] h0_X9_forms_54 (zrk (zU) h1_X9_forms_54) = true := by decide +kernel
noncomputable def g_X9_forms_54 {d : Nat} : List zV → zH d → zP d → Bool := zsmyM [(0, 0), (1, 21), (1, 20), (1, 22), (1, 33), (1, 3), (1, 31), (1, 32), (1, 26), (1, 27), (1, 29), (1, 35), (1, 34), (1, 36)] [zR 1, zI 3] h0_X9_forms_54 (zU) h1_X9_forms_54
theorem mg_X9_forms_54 {d : Nat} : zMet (d := d) X_X9_forms yX9_forms 19 g_X9_forms_54 := zMet_smM m_X9_formsa ev_X9_forms_54
noncomputable def zk_99_zs1_99_l00_X9_forms_83 : zT 2 := @Prod.mk (zT 1) (zT 1) ((25, 63, bg_293), (0, 11, bg_163)) ((0, 11, bg_164), (0, 456, bg_61))
noncomputable def h0_X9_forms_55 : zH 4 := (show zT 4 from ((zk_99_zs1_99_l00_X9_forms_83, zk_99_zs1_99_l00_X9_forms_59), (zk_99_zs1_99_l00_X9_forms_70, zk_99_zs1_99_l00_X9_forms_4)), (14, (0, 0)))
noncomputable def h1_X9_forms_55 : zH 4 := (show zT 4 from ((zk_99_zs1_99_l00_X9_forms_83, zk_99_zs1_99_l00_X9_forms_60), zk_99_zs1_99_l00_X9_forms_74), (14, (0, 0)))
theorem ev_X9_forms_55 : f_X9_formsa [zR 1, zI 4] h0_X9_forms_55 (zrk (zU) h1_X9_forms_55) = true := by decide +kernel
noncomputable def g_X9_forms_55 {d : Nat} : List zV → zH d → zP d → Bool := zsmyM [(0, 0), (1, 21), (1, 20), (1, 22), (1, 33), (1, 3), (1, 31), (1, 32), (1, 26), (1, 27), (1, 29), (1, 35), (1, 34), (1, 36)] [zR 1, zI 4] h0_X9_forms_55 (zU) h1_X9_forms_55
theorem mg_X9_forms_55 {d : Nat} : zMet (d := d) X_X9_forms yX9_forms 19 g_X9_forms_55 := zMet_smM m_X9_formsa ev_X9_forms_55
noncomputable def zk_99_zs1_99_l00_X9_forms_84 : zT 2 := @Prod.mk (zT 1) (zT 1) ((25, 63, bg_294), (0, 11, bg_166)) ((0, 11, bg_167), (0, 456, bg_64))
noncomputable def h0_X9_forms_56 : zH 4 := (show zT 4 from ((zk_99_zs1_99_l00_X9_forms_84, zk_99_zs1_99_l00_X9_forms_59), (zk_99_zs1_99_l00_X9_forms_73, zk_99_zs1_99_l00_X9_forms_4)), (14, (0, 0)))
noncomputable def h1_X9_forms_56 : zH 4 := (show zT 4 from ((zk_99_zs1_99_l00_X9_forms_84, zk_99_zs1_99_l00_X9_forms_60), zk_99_zs1_99_l00_X9_forms_77), (14, (0, 0)))
theorem ev_X9_forms_56 : f_X9_formsa [zR 1, zI 5] h0_X9_forms_56 (zrk (zU) h1_X9_forms_56) = true := by decide +kernel
noncomputable def g_X9_forms_56 {d : Nat} : List zV → zH d → zP d → Bool := zsmyM [(0, 0), (1, 21), (1, 20), (1, 22), (1, 33), (1, 3), (1, 31), (1, 32), (1, 26), (1, 27), (1, 29), (1, 35), (1, 34), (1, 36)] [zR 1, zI 5] h0_X9_forms_56 (zU) h1_X9_forms_56
theorem mg_X9_forms_56 {d : Nat} : zMet (d := d) X_X9_forms yX9_forms 19 g_X9_forms_56 := zMet_smM m_X9_formsa ev_X9_forms_56
noncomputable def zk_99_zs1_99_l00_X9_forms_85 : zT 2 := @Prod.mk (zT 1) (zT 1) ((25, 63, bg_295), (0, 11, bg_169)) ((0, 11, bg_170), (0, 456, bg_67))
noncomputable def h0_X9_forms_57 : zH 4 := (show zT 4 from ((zk_99_zs1_99_l00_X9_forms_85, zk_99_zs1_99_l00_X9_forms_59), (zk_99_zs1_99_l00_X9_forms_76, zk_99_zs1_99_l00_X9_forms_4)), (14, (0, 0)))
noncomputable def h1_X9_forms_57 : zH 4 := (show zT 4 from ((zk_99_zs1_99_l00_X9_forms_85, zk_99_zs1_99_l00_X9_forms_60), zk_99_zs1_99_l00_X9_forms_79), (14, (0, 0)))
theorem ev_X9_forms_57 : f_X9_formsa [zR 1, zI 6] h0_X9_forms_57 (zrk (zU) h1_X9_forms_57) = true := by decide +kernel
noncomputable def g_X9_forms_57 {d : Nat} : List zV → zH d → zP d → Bool := zsmyM [(0, 0), (1, 21), (1, 20), (1, 22), (1, 33), (1, 3), (1, 31), (1, 32), (1, 26), (1, 27), (1, 29), (1, 35), (1, 34), (1, 36)] [zR 1, zI 6] h0_X9_forms_57 (zU) h1_X9_forms_57
theorem mg_X9_forms_57 {d : Nat} : zMet (d := d) X_X9_forms yX9_forms 19 g_X9_forms_57 := zMet_smM m_X9_formsa ev_X9_forms_57
noncomputable def h0_X9_forms_58 : zH 4 := (show zT 4 from (((((25, 63, bg_296), (0, 11, bg_8)), ((0, 11, bg_131), (0, 456, bg_49))), zk_99_zs1_99_l00_X9_forms_59), zk_99_zs1_99_l00_X9_forms_5), (14, (0, 0)))
noncomputable def h1_X9_forms_58 : zH 4 := (show zT 4 from (((((25, 63, bg_297), (0, 11, bg_8)), ((0, 11, bg_131), (0, 456, bg_49))), zk_99_zs1_99_l00_X9_forms_60), zk_99_zs1_99_l00_X9_forms_62), (14, (0, 0)))
theorem ev_X9_forms_58 : f_X9_formsa [zR 1, zI 0] h0_X9_forms_58 (zrk (zU) h1_X9_forms_58) = true := by decide +kernel
noncomputable def g_X9_forms_58 {d : Nat} : List zV → zH d → zP d → Bool := zsmyM [(0, 0), (1, 21), (1, 20), (1, 22), (1, 33), (1, 3), (1, 31), (1, 32), (1, 26), (1, 27), (1, 29), (1, 35), (1, 34), (1, 36)] [zR 1, zI 0] h0_X9_forms_58 (zU) h1_X9_forms_58
theorem mg_X9_forms_58 {d : Nat} : zMet (d := d) X_X9_forms yX9_forms 19 g_X9_forms_58 := zMet_smM m_X9_formsa ev_X9_forms_58
noncomputable def zk_99_zs1_99_l00_X9_forms_86 : zT 2 := @Prod.mk (zT 1) (zT 1) ((25, 63, bg_298), (0, 11, bg_155)) ((0, 11, bg_135), (0, 456, bg_52))
noncomputable def h0_X9_forms_59 : zH 4 := (show zT 4 from ((zk_99_zs1_99_l00_X9_forms_86, zk_99_zs1_99_l00_X9_forms_59), (zk_99_zs1_99_l00_X9_forms_61, zk_99_zs1_99_l00_X9_forms_4)), (14, (0, 0)))
noncomputable def h1_X9_forms_59 : zH 4 := (show zT 4 from ((zk_99_zs1_99_l00_X9_forms_86, zk_99_zs1_99_l00_X9_forms_60), zk_99_zs1_99_l00_X9_forms_65), (14, (0, 0)))
theorem ev_X9_forms_59 : f_X9_formsa [zR 1, zI 1] h0_X9_forms_59 (zrk (zU) h1_X9_forms_59) = true := by decide +kernel
noncomputable def g_X9_forms_59 {d : Nat} : List zV → zH d → zP d → Bool := zsmyM [(0, 0), (1, 21), (1, 20), (1, 22), (1, 33), (1, 3), (1, 31), (1, 32), (1, 26), (1, 27), (1, 29), (1, 35), (1, 34), (1, 36)] [zR 1, zI 1] h0_X9_forms_59 (zU) h1_X9_forms_59
theorem mg_X9_forms_59 {d : Nat} : zMet (d := d) X_X9_forms yX9_forms 19 g_X9_forms_59 := zMet_smM m_X9_formsa ev_X9_forms_59
noncomputable def zk_99_zs1_99_l00_X9_forms_87 : zT 2 := @Prod.mk (zT 1) (zT 1) ((25, 63, bg_299), (0, 11, bg_157)) ((0, 11, bg_158), (0, 456, bg_55))
noncomputable def h0_X9_forms_60 : zH 4 := (show zT 4 from ((zk_99_zs1_99_l00_X9_forms_87, zk_99_zs1_99_l00_X9_forms_59), (zk_99_zs1_99_l00_X9_forms_64, zk_99_zs1_99_l00_X9_forms_4)), (14, (0, 0)))
noncomputable def h1_X9_forms_60 : zH 4 := (show zT 4 from ((zk_99_zs1_99_l00_X9_forms_87, zk_99_zs1_99_l00_X9_forms_60), zk_99_zs1_99_l00_X9_forms_68), (14, (0, 0)))
theorem ev_X9_forms_60 : f_X9_formsa [zR 1, zI 2] h0_X9_forms_60 (zrk (zU) h1_X9_forms_60) = true := by decide +kernel
noncomputable def g_X9_forms_60 {d : Nat} : List zV → zH d → zP d → Bool := zsmyM [(0, 0), (1, 21), (1, 20), (1, 22), (1, 33), (1, 3), (1, 31), (1, 32), (1, 26), (1, 27), (1, 29), (1, 35), (1, 34), (1, 36)] [zR 1, zI 2] h0_X9_forms_60 (zU) h1_X9_forms_60
theorem mg_X9_forms_60 {d : Nat} : zMet (d := d) X_X9_forms yX9_forms 19 g_X9_forms_60 := zMet_smM m_X9_formsa ev_X9_forms_60
noncomputable def zk_99_zs1_99_l00_X9_forms_88 : zT 2 := @Prod.mk (zT 1) (zT 1) ((25, 63, bg_300), (0, 11, bg_160)) ((0, 11, bg_161), (0, 456, bg_58))
noncomputable def h0_X9_forms_61 : zH 4 := (show zT 4 from ((zk_99_zs1_99_l00_X9_forms_88, zk_99_zs1_99_l00_X9_forms_59), (zk_99_zs1_99_l00_X9_forms_67, zk_99_zs1_99_l00_X9_forms_4)), (14, (0, 0)))
noncomputable def h1_X9_forms_61 : zH 4 := (show zT 4 from ((zk_99_zs1_99_l00_X9_forms_88, zk_99_zs1_99_l00_X9_forms_60), zk_99_zs1_99_l00_X9_forms_71), (14, (0, 0)))
theorem ev_X9_forms_61 : f_X9_formsa [zR 1, zI 3] h0_X9_forms_61 (zrk (zU) h1_X9_forms_61) = true := by decide +kernel
noncomputable def g_X9_forms_61 {d : Nat} : List zV → zH d → zP d → Bool := zsmyM [(0, 0), (1, 21), (1, 20), (1, 22), (1, 33), (1, 3), (1, 31), (1, 32), (1, 26), (1, 27), (1, 29), (1, 35), (1, 34), (1, 36)] [zR 1, zI 3] h0_X9_forms_61 (zU) h1_X9_forms_61
theorem mg_X9_forms_61 {d : Nat} : zMet (d := d) X_X9_forms yX9_forms 19 g_X9_forms_61 := zMet_smM m_X9_formsa ev_X9_forms_61
noncomputable def zk_99_zs1_99_l00_X9_forms_89 : zT 2 := @Prod.mk (zT 1) (zT 1) ((25, 63, bg_301), (0, 11, bg_163)) ((0, 11, bg_164), (0, 456, bg_61))
noncomputable def h0_X9_forms_62 : zH 4 := (show zT 4 from ((zk_99_zs1_99_l00_X9_forms_89, zk_99_zs1_99_l00_X9_forms_59), (zk_99_zs1_99_l00_X9_forms_70, zk_99_zs1_99_l00_X9_forms_4)), (14, (0, 0)))
noncomputable def h1_X9_forms_62 : zH 4 := (show zT 4 from ((zk_99_zs1_99_l00_X9_forms_89, zk_99_zs1_99_l00_X9_forms_60), zk_99_zs1_99_l00_X9_forms_74), (14, (0, 0)))
theorem ev_X9_forms_62 : f_X9_formsa [zR 1, zI 4] h0_X9_forms_62 (zrk (zU) h1_X9_forms_62) = true := by decide +kernel
noncomputable def g_X9_forms_62 {d : Nat} : List zV → zH d → zP d → Bool := zsmyM [(0, 0), (1, 21), (1, 20), (1, 22), (1, 33), (1, 3), (1, 31), (1, 32), (1, 26), (1, 27), (1, 29), (1, 35), (1, 34), (1, 36)] [zR 1, zI 4] h0_X9_forms_62 (zU) h1_X9_forms_62
theorem mg_X9_forms_62 {d : Nat} : zMet (d := d) X_X9_forms yX9_forms 19 g_X9_forms_62 := zMet_smM m_X9_formsa ev_X9_forms_62
noncomputable def zk_99_zs1_99_l00_X9_forms_90 : zT 2 := @Prod.mk (zT 1) (zT 1) ((25, 63, bg_302), (0, 11, bg_166)) ((0, 11, bg_167), (0, 456, bg_64))
noncomputable def h0_X9_forms_63 : zH 4 := (show zT 4 from ((zk_99_zs1_99_l00_X9_forms_90, zk_99_zs1_99_l00_X9_forms_59), (zk_99_zs1_99_l00_X9_forms_73, zk_99_zs1_99_l00_X9_forms_4)), (14, (0, 0)))
noncomputable def h1_X9_forms_63 : zH 4 := (show zT 4 from ((zk_99_zs1_99_l00_X9_forms_90, zk_99_zs1_99_l00_X9_forms_60), zk_99_zs1_99_l00_X9_forms_77), (14, (0, 0)))
theorem ev_X9_forms_63 : f_X9_formsa [zR 1, zI 5] h0_X9_forms_63 (zrk (zU) h1_X9_forms_63) = true := by decide +kernel
noncomputable def g_X9_forms_63 {d : Nat} : List zV → zH d → zP d → Bool := zsmyM [(0, 0), (1, 21), (1, 20), (1, 22), (1, 33), (1, 3), (1, 31), (1, 32), (1, 26), (1, 27), (1, 29), (1, 35), (1, 34), (1, 36)] [zR 1, zI 5] h0_X9_forms_63 (zU) h1_X9_forms_63
theorem mg_X9_forms_63 {d : Nat} : zMet (d := d) X_X9_forms yX9_forms 19 g_X9_forms_63 := zMet_smM m_X9_formsa ev_X9_forms_63
noncomputable def zk_99_zs1_99_l00_X9_forms_91 : zT 2 := @Prod.mk (zT 1) (zT 1) ((25, 63, bg_303), (0, 11, bg_169)) ((0, 11, bg_170), (0, 456, bg_67))
noncomputable def h0_X9_forms_64 : zH 4 := (show zT 4 from ((zk_99_zs1_99_l00_X9_forms_91, zk_99_zs1_99_l00_X9_forms_59), (zk_99_zs1_99_l00_X9_forms_76, zk_99_zs1_99_l00_X9_forms_4)), (14, (0, 0)))
noncomputable def h1_X9_forms_64 : zH 4 := (show zT 4 from ((zk_99_zs1_99_l00_X9_forms_91, zk_99_zs1_99_l00_X9_forms_60), zk_99_zs1_99_l00_X9_forms_79), (14, (0, 0)))
theorem ev_X9_forms_64 : f_X9_formsa [zR 1, zI 6] h0_X9_forms_64 (zrk (zU) h1_X9_forms_64) = true := by decide +kernel
noncomputable def g_X9_forms_64 {d : Nat} : List zV → zH d → zP d → Bool := zsmyM [(0, 0), (1, 21), (1, 20), (1, 22), (1, 33), (1, 3), (1, 31), (1, 32), (1, 26), (1, 27), (1, 29), (1, 35), (1, 34), (1, 36)] [zR 1, zI 6] h0_X9_forms_64 (zU) h1_X9_forms_64
theorem mg_X9_forms_64 {d : Nat} : zMet (d := d) X_X9_forms yX9_forms 19 g_X9_forms_64 := zMet_smM m_X9_formsa ev_X9_forms_64
noncomputable def h0_X9_forms_65 : zH 4 := (show zT 4 from (((((25, 63, bg_304), (0, 11, bg_8)), ((0, 11, bg_131), (0, 456, bg_49))), zk_99_zs1_99_l00_X9_forms_59), zk_99_zs1_99_l00_X9_forms_5), (14, (0, 0)))
noncomputable def h1_X9_forms_65 : zH 4 := (show zT 4 from (((((25, 63, bg_305), (0, 11, bg_8)), ((0, 11, bg_131), (0, 456, bg_49))), zk_99_zs1_99_l00_X9_forms_60), zk_99_zs1_99_l00_X9_forms_62), (14, (0, 0)))
theorem ev_X9_forms_65 : f_X9_formsa [zR 1, zI 0] h0_X9_forms_65 (zrk (zU) h1_X9_forms_65) = true := by decide +kernel
noncomputable def g_X9_forms_65 {d : Nat} : List zV → zH d → zP d → Bool := zsmyM [(0, 0), (1, 21), (1, 20), (1, 22), (1, 33), (1, 3), (1, 31), (1, 32), (1, 26), (1, 27), (1, 29), (1, 35), (1, 34), (1, 36)] [zR 1, zI 0] h0_X9_forms_65 (zU) h1_X9_forms_65
theorem mg_X9_forms_65 {d : Nat} : zMet (d := d) X_X9_forms yX9_forms 19 g_X9_forms_65 := zMet_smM m_X9_formsa ev_X9_forms_65
noncomputable def zk_99_zs1_99_l00_X9_forms_92 : zT 2 := @Prod.mk (zT 1) (zT 1) ((25, 63, bg_306), (0, 11, bg_155)) ((0, 11, bg_135), (0, 456, bg_52))
noncomputable def h0_X9_forms_66 : zH 4 := (show zT 4 from ((zk_99_zs1_99_l00_X9_forms_92, zk_99_zs1_99_l00_X9_forms_59), (zk_99_zs1_99_l00_X9_forms_61, zk_99_zs1_99_l00_X9_forms_4)), (14, (0, 0)))
noncomputable def h1_X9_forms_66 : zH 4 := (show zT 4 from ((zk_99_zs1_99_l00_X9_forms_92, zk_99_zs1_99_l00_X9_forms_60), zk_99_zs1_99_l00_X9_forms_65), (14, (0, 0)))
theorem ev_X9_forms_66 : f_X9_formsa [zR 1, zI 1] h0_X9_forms_66 (zrk (zU) h1_X9_forms_66) = true := by decide +kernel
noncomputable def g_X9_forms_66 {d : Nat} : List zV → zH d → zP d → Bool := zsmyM [(0, 0), (1, 21), (1, 20), (1, 22), (1, 33), (1, 3), (1, 31), (1, 32), (1, 26), (1, 27), (1, 29), (1, 35), (1, 34), (1, 36)] [zR 1, zI 1] h0_X9_forms_66 (zU) h1_X9_forms_66
theorem mg_X9_forms_66 {d : Nat} : zMet (d := d) X_X9_forms yX9_forms 19 g_X9_forms_66 := zMet_smM m_X9_formsa ev_X9_forms_66
noncomputable def zk_99_zs1_99_l00_X9_forms_93 : zT 2 := @Prod.mk (zT 1) (zT 1) ((25, 63, bg_307), (0, 11, bg_157)) ((0, 11, bg_158), (0, 456, bg_55))
noncomputable def h0_X9_forms_67 : zH 4 := (show zT 4 from ((zk_99_zs1_99_l00_X9_forms_93, zk_99_zs1_99_l00_X9_forms_59), (zk_99_zs1_99_l00_X9_forms_64, zk_99_zs1_99_l00_X9_forms_4)), (14, (0, 0)))
noncomputable def h1_X9_forms_67 : zH 4 := (show zT 4 from ((zk_99_zs1_99_l00_X9_forms_93, zk_99_zs1_99_l00_X9_forms_60), zk_99_zs1_99_l00_X9_forms_68), (14, (0, 0)))
theorem ev_X9_forms_67 : f_X9_formsa [zR 1, zI 2] h0_X9_forms_67 (zrk (zU) h1_X9_forms_67) = true := by decide +kernel
noncomputable def g_X9_forms_67 {d : Nat} : List zV → zH d → zP d → Bool := zsmyM [(0, 0), (1, 21), (1, 20), (1, 22), (1, 33), (1, 3), (1, 31), (1, 32), (1, 26), (1, 27), (1, 29), (1, 35), (1, 34), (1, 36)] [zR 1, zI 2] h0_X9_forms_67 (zU) h1_X9_forms_67
theorem mg_X9_forms_67 {d : Nat} : zMet (d := d) X_X9_forms yX9_forms 19 g_X9_forms_67 := zMet_smM m_X9_formsa ev_X9_forms_67
noncomputable def zk_99_zs1_99_l00_X9_forms_94 : zT 2 := @Prod.mk (zT 1) (zT 1) ((25, 63, bg_308), (0, 11, bg_160)) ((0, 11, bg_161), (0, 456, bg_58))
noncomputable def h0_X9_forms_68 : zH 4 := (show zT 4 from ((zk_99_zs1_99_l00_X9_forms_94, zk_99_zs1_99_l00_X9_forms_59), (zk_99_zs1_99_l00_X9_forms_67, zk_99_zs1_99_l00_X9_forms_4)), (14, (0, 0)))
noncomputable def h1_X9_forms_68 : zH 4 := (show zT 4 from ((zk_99_zs1_99_l00_X9_forms_94, zk_99_zs1_99_l00_X9_forms_60), zk_99_zs1_99_l00_X9_forms_71), (14, (0, 0)))
theorem ev_X9_forms_68 : f_X9_formsa [zR 1, zI 3] h0_X9_forms_68 (zrk (zU) h1_X9_forms_68) = true := by decide +kernel
noncomputable def g_X9_forms_68 {d : Nat} : List zV → zH d → zP d → Bool := zsmyM [(0, 0), (1, 21), (1, 20), (1, 22), (1, 33), (1, 3), (1, 31), (1, 32), (1, 26), (1, 27), (1, 29), (1, 35), (1, 34), (1, 36)] [zR 1, zI 3] h0_X9_forms_68 (zU) h1_X9_forms_68
theorem mg_X9_forms_68 {d : Nat} : zMet (d := d) X_X9_forms yX9_forms 19 g_X9_forms_68 := zMet_smM m_X9_formsa ev_X9_forms_68
noncomputable def zk_99_zs1_99_l00_X9_forms_95 : zT 2 := @Prod.mk (zT 1) (zT 1) ((25, 63, bg_309), (0, 11, bg_163)) ((0, 11, bg_164), (0, 456, bg_61))
noncomputable def h0_X9_forms_69 : zH 4 := (show zT 4 from ((zk_99_zs1_99_l00_X9_forms_95, zk_99_zs1_99_l00_X9_forms_59), (zk_99_zs1_99_l00_X9_forms_70, zk_99_zs1_99_l00_X9_forms_4)), (14, (0, 0)))
noncomputable def h1_X9_forms_69 : zH 4 := (show zT 4 from ((zk_99_zs1_99_l00_X9_forms_95, zk_99_zs1_99_l00_X9_forms_60), zk_99_zs1_99_l00_X9_forms_74), (14, (0, 0)))
theorem ev_X9_forms_69 : f_X9_formsa [zR 1, zI 4] h0_X9_forms_69 (zrk (zU) h1_X9_forms_69) = true := by decide +kernel
noncomputable def g_X9_forms_69 {d : Nat} : List zV → zH d → zP d → Bool := zsmyM [(0, 0), (1, 21), (1, 20), (1, 22), (1, 33), (1, 3), (1, 31), (1, 32), (1, 26), (1, 27), (1, 29), (1, 35), (1, 34), (1, 36)] [zR 1, zI 4] h0_X9_forms_69 (zU) h1_X9_forms_69
theorem mg_X9_forms_69 {d : Nat} : zMet (d := d) X_X9_forms yX9_forms 19 g_X9_forms_69 := zMet_smM m_X9_formsa ev_X9_forms_69
noncomputable def zk_99_zs1_99_l00_X9_forms_96 : zT 2 := @Prod.mk (zT 1) (zT 1) ((25, 63, bg_310), (0, 11, bg_166)) ((0, 11, bg_167), (0, 456, bg_64))
noncomputable def h0_X9_forms_70 : zH 4 := (show zT 4 from ((zk_99_zs1_99_l00_X9_forms_96, zk_99_zs1_99_l00_X9_forms_59), (zk_99_zs1_99_l00_X9_forms_73, zk_99_zs1_99_l00_X9_forms_4)), (14, (0, 0)))
noncomputable def h1_X9_forms_70 : zH 4 := (show zT 4 from ((zk_99_zs1_99_l00_X9_forms_96, zk_99_zs1_99_l00_X9_forms_60), zk_99_zs1_99_l00_X9_forms_77), (14, (0, 0)))
theorem ev_X9_forms_70 : f_X9_formsa [zR 1, zI 5] h0_X9_forms_70 (zrk (zU) h1_X9_forms_70) = true := by decide +kernel
noncomputable def g_X9_forms_70 {d : Nat} : List zV → zH d → zP d → Bool := zsmyM [(0, 0), (1, 21), (1, 20), (1, 22), (1, 33), (1, 3), (1, 31), (1, 32), (1, 26), (1, 27), (1, 29), (1, 35), (1, 34), (1, 36)] [zR 1, zI 5] h0_X9_forms_70 (zU) h1_X9_forms_70
theorem mg_X9_forms_70 {d : Nat} : zMet (d := d) X_X9_forms yX9_forms 19 g_X9_forms_70 := zMet_smM m_X9_formsa ev_X9_forms_70
noncomputable def zk_99_zs1_99_l00_X9_forms_97 : zT 2 := @Prod.mk (zT 1) (zT 1) ((25, 63, bg_311), (0, 11, bg_169)) ((0, 11, bg_170), (0, 456, bg_67))
noncomputable def h0_X9_forms_71 : zH 4 := (show zT 4 from ((zk_99_zs1_99_l00_X9_forms_97, zk_99_zs1_99_l00_X9_forms_59), (zk_99_zs1_99_l00_X9_forms_76, zk_99_zs1_99_l00_X9_forms_4)), (14, (0, 0)))
noncomputable def h1_X9_forms_71 : zH 4 := (show zT 4 from ((zk_99_zs1_99_l00_X9_forms_97, zk_99_zs1_99_l00_X9_forms_60), zk_99_zs1_99_l00_X9_forms_79), (14, (0, 0)))
theorem ev_X9_forms_71 : f_X9_formsa [zR 1, zI 6] h0_X9_forms_71 (zrk (zU) h1_X9_forms_71) = true := by decide +kernel
noncomputable def g_X9_forms_71 {d : Nat} : List zV → zH d → zP d → Bool := zsmyM [(0, 0), (1, 21), (1, 20), (1, 22), (1, 33), (1, 3), (1, 31), (1, 32), (1, 26), (1, 27), (1, 29), (1, 35), (1, 34), (1, 36)] [zR 1, zI 6] h0_X9_forms_71 (zU) h1_X9_forms_71
theorem mg_X9_forms_71 {d : Nat} : zMet (d := d) X_X9_forms yX9_forms 19 g_X9_forms_71 := zMet_smM m_X9_formsa ev_X9_forms_71
noncomputable def zk_99_zs1_99_l00_X9_forms_98 : zT 2 := @Prod.mk (zT 1) (zT 1) (zk_99_zs1_99_l00_X9_forms_0, (0, 66, bg_6)) zk_99_zs1_99_l00_X9_forms_1
noncomputable def h0_X9_forms_72 : zH 4 := (show zT 4 from (((((25, 63, bg_312), (0, 11, bg_8)), ((0, 11, bg_131), (0, 456, bg_70))), zk_99_zs1_99_l00_X9_forms_98), zk_99_zs1_99_l00_X9_forms_5), (14, (0, 0)))
noncomputable def zk_99_zs1_99_l00_X9_forms_99 : zT 2 := @Prod.mk (zT 1) (zT 1) ((0, 7, 0x6000000000500000000040000000003000000000200000000010100000000), (0, 66, bg_6)) zk_99_zs1_99_l00_X9_forms_1
noncomputable def zk_99_zs1_99_l00_X9_forms_100 : zT 2 := @Prod.mk (zT 1) (zT 1) ((10, 46656, 6), (11, 720, 6)) zk_99_zs1_99_l00_X9_forms_3
noncomputable def zk_99_zs1_99_l00_X9_forms_101 : zT 3 := @Prod.mk (zT 2) (zT 2) zk_99_zs1_99_l00_X9_forms_100 (((0, 256, zun 40 256 4294967296), (0, 11, bg_208)), zO1)
noncomputable def h1_X9_forms_72 : zH 4 := (show zT 4 from (((((25, 63, bg_313), (0, 11, bg_8)), ((0, 11, bg_131), (0, 456, bg_70))), zk_99_zs1_99_l00_X9_forms_99), zk_99_zs1_99_l00_X9_forms_101), (14, (0, 0)))
theorem ev_X9_forms_72 : f_X9_formsa [zR 1, zI 0] h0_X9_forms_72 (zrk (zU) h1_X9_forms_72) = true := by decide +kernel
noncomputable def g_X9_forms_72 {d : Nat} : List zV → zH d → zP d → Bool := zsmyM [(0, 0), (1, 21), (1, 20), (1, 22), (1, 33), (1, 3), (1, 31), (1, 32), (1, 26), (1, 27), (1, 29), (1, 35), (1, 34), (1, 36)] [zR 1, zI 0] h0_X9_forms_72 (zU) h1_X9_forms_72
theorem mg_X9_forms_72 {d : Nat} : zMet (d := d) X_X9_forms yX9_forms 19 g_X9_forms_72 := zMet_smM m_X9_formsa ev_X9_forms_72
noncomputable def zk_99_zs1_99_l00_X9_forms_102 : zT 2 := @Prod.mk (zT 1) (zT 1) ((25, 63, bg_314), (0, 11, bg_173)) ((0, 11, bg_135), (0, 456, bg_73))
noncomputable def zk_99_zs1_99_l00_X9_forms_103 : zT 3 := @Prod.mk (zT 2) (zT 2) zk_99_zs1_99_l00_X9_forms_100 zk_99_zs1_99_l00_X9_forms_4
noncomputable def h0_X9_forms_73 : zH 4 := (show zT 4 from ((zk_99_zs1_99_l00_X9_forms_102, zk_99_zs1_99_l00_X9_forms_98), zk_99_zs1_99_l00_X9_forms_103), (14, (0, 0)))
noncomputable def zk_99_zs1_99_l00_X9_forms_104 : zT 2 := @Prod.mk (zT 1) (zT 1) ((10, 46656, 13), (11, 720, 13)) zk_99_zs1_99_l00_X9_forms_3
noncomputable def zk_99_zs1_99_l00_X9_forms_105 : zT 3 := @Prod.mk (zT 2) (zT 2) zk_99_zs1_99_l00_X9_forms_104 (((0, 256, zun 40 256 4294967296), (0, 11, bg_315)), zO1)
noncomputable def h1_X9_forms_73 : zH 4 := (show zT 4 from ((zk_99_zs1_99_l00_X9_forms_102, zk_99_zs1_99_l00_X9_forms_99), zk_99_zs1_99_l00_X9_forms_105), (14, (0, 0)))
theorem ev_X9_forms_73 : f_X9_formsa [zR 1, zI 1] h0_X9_forms_73 (zrk (zU) h1_X9_forms_73) = true := by decide +kernel
noncomputable def g_X9_forms_73 {d : Nat} : List zV → zH d → zP d → Bool := zsmyM [(0, 0), (1, 21), (1, 20), (1, 22), (1, 33), (1, 3), (1, 31), (1, 32), (1, 26), (1, 27), (1, 29), (1, 35), (1, 34), (1, 36)] [zR 1, zI 1] h0_X9_forms_73 (zU) h1_X9_forms_73
theorem mg_X9_forms_73 {d : Nat} : zMet (d := d) X_X9_forms yX9_forms 19 g_X9_forms_73 := zMet_smM m_X9_formsa ev_X9_forms_73
noncomputable def zk_99_zs1_99_l00_X9_forms_106 : zT 2 := @Prod.mk (zT 1) (zT 1) ((25, 63, bg_316), (0, 11, bg_175)) ((0, 11, bg_176), (0, 456, bg_76))
noncomputable def zk_99_zs1_99_l00_X9_forms_107 : zT 3 := @Prod.mk (zT 2) (zT 2) zk_99_zs1_99_l00_X9_forms_104 zk_99_zs1_99_l00_X9_forms_4
noncomputable def h0_X9_forms_74 : zH 4 := (show zT 4 from ((zk_99_zs1_99_l00_X9_forms_106, zk_99_zs1_99_l00_X9_forms_98), zk_99_zs1_99_l00_X9_forms_107), (14, (0, 0)))
noncomputable def zk_99_zs1_99_l00_X9_forms_108 : zT 2 := @Prod.mk (zT 1) (zT 1) ((10, 46656, 20), (11, 720, 20)) zk_99_zs1_99_l00_X9_forms_3
noncomputable def zk_99_zs1_99_l00_X9_forms_109 : zT 3 := @Prod.mk (zT 2) (zT 2) zk_99_zs1_99_l00_X9_forms_108 (((0, 256, zun 40 256 4294967296), (0, 11, bg_317)), zO1)
noncomputable def h1_X9_forms_74 : zH 4 := (show zT 4 from ((zk_99_zs1_99_l00_X9_forms_106, zk_99_zs1_99_l00_X9_forms_99), zk_99_zs1_99_l00_X9_forms_109), (14, (0, 0)))
theorem ev_X9_forms_74 : f_X9_formsa [zR 1, zI 2] h0_X9_forms_74 (zrk (zU) h1_X9_forms_74) = true := by decide +kernel
noncomputable def g_X9_forms_74 {d : Nat} : List zV → zH d → zP d → Bool := zsmyM [(0, 0), (1, 21), (1, 20), (1, 22), (1, 33), (1, 3), (1, 31), (1, 32), (1, 26), (1, 27), (1, 29), (1, 35), (1, 34), (1, 36)] [zR 1, zI 2] h0_X9_forms_74 (zU) h1_X9_forms_74
theorem mg_X9_forms_74 {d : Nat} : zMet (d := d) X_X9_forms yX9_forms 19 g_X9_forms_74 := zMet_smM m_X9_formsa ev_X9_forms_74
noncomputable def zk_99_zs1_99_l00_X9_forms_110 : zT 2 := @Prod.mk (zT 1) (zT 1) ((25, 63, bg_318), (0, 11, bg_178)) ((0, 11, bg_179), (0, 456, bg_79))
noncomputable def zk_99_zs1_99_l00_X9_forms_111 : zT 3 := @Prod.mk (zT 2) (zT 2) zk_99_zs1_99_l00_X9_forms_108 zk_99_zs1_99_l00_X9_forms_4
noncomputable def h0_X9_forms_75 : zH 4 := (show zT 4 from ((zk_99_zs1_99_l00_X9_forms_110, zk_99_zs1_99_l00_X9_forms_98), zk_99_zs1_99_l00_X9_forms_111), (14, (0, 0)))
noncomputable def zk_99_zs1_99_l00_X9_forms_112 : zT 2 := @Prod.mk (zT 1) (zT 1) ((10, 46656, 76), (11, 720, 76)) zk_99_zs1_99_l00_X9_forms_3
noncomputable def zk_99_zs1_99_l00_X9_forms_113 : zT 3 := @Prod.mk (zT 2) (zT 2) zk_99_zs1_99_l00_X9_forms_112 (((0, 256, zun 40 256 4294967296), (0, 11, bg_319)), zO1)
noncomputable def h1_X9_forms_75 : zH 4 := (show zT 4 from ((zk_99_zs1_99_l00_X9_forms_110, zk_99_zs1_99_l00_X9_forms_99), zk_99_zs1_99_l00_X9_forms_113), (14, (0, 0)))
theorem ev_X9_forms_75 : f_X9_formsa [zR 1, zI 3] h0_X9_forms_75 (zrk (zU) h1_X9_forms_75) = true := by decide +kernel
noncomputable def g_X9_forms_75 {d : Nat} : List zV → zH d → zP d → Bool := zsmyM [(0, 0), (1, 21), (1, 20), (1, 22), (1, 33), (1, 3), (1, 31), (1, 32), (1, 26), (1, 27), (1, 29), (1, 35), (1, 34), (1, 36)] [zR 1, zI 3] h0_X9_forms_75 (zU) h1_X9_forms_75
theorem mg_X9_forms_75 {d : Nat} : zMet (d := d) X_X9_forms yX9_forms 19 g_X9_forms_75 := zMet_smM m_X9_formsa ev_X9_forms_75
noncomputable def zk_99_zs1_99_l00_X9_forms_114 : zT 2 := @Prod.mk (zT 1) (zT 1) ((25, 63, bg_320), (0, 11, bg_181)) ((0, 11, bg_182), (0, 456, bg_82))
noncomputable def zk_99_zs1_99_l00_X9_forms_115 : zT 3 := @Prod.mk (zT 2) (zT 2) zk_99_zs1_99_l00_X9_forms_112 zk_99_zs1_99_l00_X9_forms_4
noncomputable def h0_X9_forms_76 : zH 4 := (show zT 4 from ((zk_99_zs1_99_l00_X9_forms_114, zk_99_zs1_99_l00_X9_forms_98), zk_99_zs1_99_l00_X9_forms_115), (14, (0, 0)))
noncomputable def zk_99_zs1_99_l00_X9_forms_116 : zT 2 := @Prod.mk (zT 1) (zT 1) ((10, 46656, 27), (11, 720, 27)) zk_99_zs1_99_l00_X9_forms_3
noncomputable def zk_99_zs1_99_l00_X9_forms_117 : zT 3 := @Prod.mk (zT 2) (zT 2) zk_99_zs1_99_l00_X9_forms_116 (((0, 256, zun 40 256 4294967296), (0, 11, bg_283)), zO1)
noncomputable def h1_X9_forms_76 : zH 4 := (show zT 4 from ((zk_99_zs1_99_l00_X9_forms_114, zk_99_zs1_99_l00_X9_forms_99), zk_99_zs1_99_l00_X9_forms_117), (14, (0, 0)))
theorem ev_X9_forms_76 : f_X9_formsa [zR 1, zI 4] h0_X9_forms_76 (zrk (zU) h1_X9_forms_76) = true := by decide +kernel
noncomputable def g_X9_forms_76 {d : Nat} : List zV → zH d → zP d → Bool := zsmyM [(0, 0), (1, 21), (1, 20), (1, 22), (1, 33), (1, 3), (1, 31), (1, 32), (1, 26), (1, 27), (1, 29), (1, 35), (1, 34), (1, 36)] [zR 1, zI 4] h0_X9_forms_76 (zU) h1_X9_forms_76
theorem mg_X9_forms_76 {d : Nat} : zMet (d := d) X_X9_forms yX9_forms 19 g_X9_forms_76 := zMet_smM m_X9_formsa ev_X9_forms_76
noncomputable def zk_99_zs1_99_l00_X9_forms_118 : zT 2 := @Prod.mk (zT 1) (zT 1) ((25, 63, bg_321), (0, 11, bg_184)) ((0, 11, bg_185), (0, 456, bg_85))
noncomputable def zk_99_zs1_99_l00_X9_forms_119 : zT 3 := @Prod.mk (zT 2) (zT 2) zk_99_zs1_99_l00_X9_forms_116 zk_99_zs1_99_l00_X9_forms_4
noncomputable def h0_X9_forms_77 : zH 4 := (show zT 4 from ((zk_99_zs1_99_l00_X9_forms_118, zk_99_zs1_99_l00_X9_forms_98), zk_99_zs1_99_l00_X9_forms_119), (14, (0, 0)))
noncomputable def zk_99_zs1_99_l00_X9_forms_120 : zT 2 := @Prod.mk (zT 1) (zT 1) ((10, 46656, 83), (11, 720, 83)) zk_99_zs1_99_l00_X9_forms_3
noncomputable def zk_99_zs1_99_l00_X9_forms_121 : zT 3 := @Prod.mk (zT 2) (zT 2) zk_99_zs1_99_l00_X9_forms_120 (((0, 256, zun 40 256 4294967296), (0, 11, bg_322)), zO1)
noncomputable def h1_X9_forms_77 : zH 4 := (show zT 4 from ((zk_99_zs1_99_l00_X9_forms_118, zk_99_zs1_99_l00_X9_forms_99), zk_99_zs1_99_l00_X9_forms_121), (14, (0, 0)))
theorem ev_X9_forms_77 : f_X9_formsa [zR 1, zI 5] h0_X9_forms_77 (zrk (zU) h1_X9_forms_77) = true := by decide +kernel
noncomputable def g_X9_forms_77 {d : Nat} : List zV → zH d → zP d → Bool := zsmyM [(0, 0), (1, 21), (1, 20), (1, 22), (1, 33), (1, 3), (1, 31), (1, 32), (1, 26), (1, 27), (1, 29), (1, 35), (1, 34), (1, 36)] [zR 1, zI 5] h0_X9_forms_77 (zU) h1_X9_forms_77
theorem mg_X9_forms_77 {d : Nat} : zMet (d := d) X_X9_forms yX9_forms 19 g_X9_forms_77 := zMet_smM m_X9_formsa ev_X9_forms_77
noncomputable def zk_99_zs1_99_l00_X9_forms_122 : zT 2 := @Prod.mk (zT 1) (zT 1) ((25, 63, bg_323), (0, 11, bg_187)) ((0, 11, bg_188), (0, 456, bg_88))
noncomputable def zk_99_zs1_99_l00_X9_forms_123 : zT 3 := @Prod.mk (zT 2) (zT 2) zk_99_zs1_99_l00_X9_forms_120 zk_99_zs1_99_l00_X9_forms_4
noncomputable def h0_X9_forms_78 : zH 4 := (show zT 4 from ((zk_99_zs1_99_l00_X9_forms_122, zk_99_zs1_99_l00_X9_forms_98), zk_99_zs1_99_l00_X9_forms_123), (14, (0, 0)))
noncomputable def zk_99_zs1_99_l00_X9_forms_124 : zT 2 := @Prod.mk (zT 1) (zT 1) ((10, 46656, 587), (11, 720, 587)) zk_99_zs1_99_l00_X9_forms_3
noncomputable def zk_99_zs1_99_l00_X9_forms_125 : zT 3 := @Prod.mk (zT 2) (zT 2) zk_99_zs1_99_l00_X9_forms_124 (((0, 256, zun 40 256 4294967296), (0, 11, bg_324)), zO1)
noncomputable def h1_X9_forms_78 : zH 4 := (show zT 4 from ((zk_99_zs1_99_l00_X9_forms_122, zk_99_zs1_99_l00_X9_forms_99), zk_99_zs1_99_l00_X9_forms_125), (14, (0, 0)))
theorem ev_X9_forms_78 : f_X9_formsa [zR 1, zI 6] h0_X9_forms_78 (zrk (zU) h1_X9_forms_78) = true := by decide +kernel
noncomputable def g_X9_forms_78 {d : Nat} : List zV → zH d → zP d → Bool := zsmyM [(0, 0), (1, 21), (1, 20), (1, 22), (1, 33), (1, 3), (1, 31), (1, 32), (1, 26), (1, 27), (1, 29), (1, 35), (1, 34), (1, 36)] [zR 1, zI 6] h0_X9_forms_78 (zU) h1_X9_forms_78
theorem mg_X9_forms_78 {d : Nat} : zMet (d := d) X_X9_forms yX9_forms 19 g_X9_forms_78 := zMet_smM m_X9_formsa ev_X9_forms_78
noncomputable def zk_99_zs1_99_l00_X9_forms_126 : zT 2 := @Prod.mk (zT 1) (zT 1) ((25, 63, bg_325), (0, 11, bg_190)) ((0, 11, bg_191), (0, 456, bg_91))
noncomputable def zk_99_zs1_99_l00_X9_forms_127 : zT 3 := @Prod.mk (zT 2) (zT 2) zk_99_zs1_99_l00_X9_forms_124 zk_99_zs1_99_l00_X9_forms_4
noncomputable def h0_X9_forms_79 : zH 4 := (show zT 4 from ((zk_99_zs1_99_l00_X9_forms_126, zk_99_zs1_99_l00_X9_forms_98), zk_99_zs1_99_l00_X9_forms_127), (14, (0, 0)))
noncomputable def zk_99_zs1_99_l00_X9_forms_128 : zT 2 := @Prod.mk (zT 1) (zT 1) ((10, 46656, 146), (11, 720, 146)) zk_99_zs1_99_l00_X9_forms_3
noncomputable def zk_99_zs1_99_l00_X9_forms_129 : zT 3 := @Prod.mk (zT 2) (zT 2) zk_99_zs1_99_l00_X9_forms_128 (((0, 256, zun 40 256 4294967296), (0, 11, bg_326)), zO1)
noncomputable def h1_X9_forms_79 : zH 4 := (show zT 4 from ((zk_99_zs1_99_l00_X9_forms_126, zk_99_zs1_99_l00_X9_forms_99), zk_99_zs1_99_l00_X9_forms_129), (14, (0, 0)))
theorem ev_X9_forms_79 : f_X9_formsa [zR 1, zI 7] h0_X9_forms_79 (zrk (zU) h1_X9_forms_79) = true := by decide +kernel
noncomputable def g_X9_forms_79 {d : Nat} : List zV → zH d → zP d → Bool := zsmyM [(0, 0), (1, 21), (1, 20), (1, 22), (1, 33), (1, 3), (1, 31), (1, 32), (1, 26), (1, 27), (1, 29), (1, 35), (1, 34), (1, 36)] [zR 1, zI 7] h0_X9_forms_79 (zU) h1_X9_forms_79
theorem mg_X9_forms_79 {d : Nat} : zMet (d := d) X_X9_forms yX9_forms 19 g_X9_forms_79 := zMet_smM m_X9_formsa ev_X9_forms_79
noncomputable def zk_99_zs1_99_l00_X9_forms_130 : zT 2 := @Prod.mk (zT 1) (zT 1) ((25, 63, bg_327), (0, 11, bg_193)) ((0, 11, bg_194), (0, 456, bg_94))
noncomputable def zk_99_zs1_99_l00_X9_forms_131 : zT 3 := @Prod.mk (zT 2) (zT 2) zk_99_zs1_99_l00_X9_forms_128 zk_99_zs1_99_l00_X9_forms_4
noncomputable def h0_X9_forms_80 : zH 4 := (show zT 4 from ((zk_99_zs1_99_l00_X9_forms_130, zk_99_zs1_99_l00_X9_forms_98), zk_99_zs1_99_l00_X9_forms_131), (14, (0, 0)))
noncomputable def zk_99_zs1_99_l00_X9_forms_132 : zT 2 := @Prod.mk (zT 1) (zT 1) ((10, 46656, 594), (11, 720, 594)) zk_99_zs1_99_l00_X9_forms_3
noncomputable def zk_99_zs1_99_l00_X9_forms_133 : zT 3 := @Prod.mk (zT 2) (zT 2) zk_99_zs1_99_l00_X9_forms_132 (((0, 256, zun 40 256 4294967296), (0, 11, bg_328)), zO1)
noncomputable def h1_X9_forms_80 : zH 4 := (show zT 4 from ((zk_99_zs1_99_l00_X9_forms_130, zk_99_zs1_99_l00_X9_forms_99), zk_99_zs1_99_l00_X9_forms_133), (14, (0, 0)))
theorem ev_X9_forms_80 : f_X9_formsa [zR 1, zI 8] h0_X9_forms_80 (zrk (zU) h1_X9_forms_80) = true := by decide +kernel
noncomputable def g_X9_forms_80 {d : Nat} : List zV → zH d → zP d → Bool := zsmyM [(0, 0), (1, 21), (1, 20), (1, 22), (1, 33), (1, 3), (1, 31), (1, 32), (1, 26), (1, 27), (1, 29), (1, 35), (1, 34), (1, 36)] [zR 1, zI 8] h0_X9_forms_80 (zU) h1_X9_forms_80
theorem mg_X9_forms_80 {d : Nat} : zMet (d := d) X_X9_forms yX9_forms 19 g_X9_forms_80 := zMet_smM m_X9_formsa ev_X9_forms_80
noncomputable def zk_99_zs1_99_l00_X9_forms_134 : zT 2 := @Prod.mk (zT 1) (zT 1) ((25, 63, bg_329), (0, 11, bg_196)) ((0, 11, bg_197), (0, 456, bg_97))
noncomputable def zk_99_zs1_99_l00_X9_forms_135 : zT 3 := @Prod.mk (zT 2) (zT 2) zk_99_zs1_99_l00_X9_forms_132 zk_99_zs1_99_l00_X9_forms_4
noncomputable def h0_X9_forms_81 : zH 4 := (show zT 4 from ((zk_99_zs1_99_l00_X9_forms_134, zk_99_zs1_99_l00_X9_forms_98), zk_99_zs1_99_l00_X9_forms_135), (14, (0, 0)))
noncomputable def zk_99_zs1_99_l00_X9_forms_136 : zT 2 := @Prod.mk (zT 1) (zT 1) ((10, 46656, 4682), (11, 720, 4682)) zk_99_zs1_99_l00_X9_forms_3
noncomputable def zk_99_zs1_99_l00_X9_forms_137 : zT 3 := @Prod.mk (zT 2) (zT 2) zk_99_zs1_99_l00_X9_forms_136 (((0, 256, zun 40 256 4294967296), (0, 11, bg_330)), zO1)
noncomputable def h1_X9_forms_81 : zH 4 := (show zT 4 from ((zk_99_zs1_99_l00_X9_forms_134, zk_99_zs1_99_l00_X9_forms_99), zk_99_zs1_99_l00_X9_forms_137), (14, (0, 0)))
theorem ev_X9_forms_81 : f_X9_formsa [zR 1, zI 9] h0_X9_forms_81 (zrk (zU) h1_X9_forms_81) = true := by decide +kernel
noncomputable def g_X9_forms_81 {d : Nat} : List zV → zH d → zP d → Bool := zsmyM [(0, 0), (1, 21), (1, 20), (1, 22), (1, 33), (1, 3), (1, 31), (1, 32), (1, 26), (1, 27), (1, 29), (1, 35), (1, 34), (1, 36)] [zR 1, zI 9] h0_X9_forms_81 (zU) h1_X9_forms_81
theorem mg_X9_forms_81 {d : Nat} : zMet (d := d) X_X9_forms yX9_forms 19 g_X9_forms_81 := zMet_smM m_X9_formsa ev_X9_forms_81
noncomputable def zk_99_zs1_99_l00_X9_forms_138 : zT 2 := @Prod.mk (zT 1) (zT 1) ((25, 63, bg_331), (0, 11, bg_199)) ((0, 11, bg_200), (0, 456, bg_100))
noncomputable def zk_99_zs1_99_l00_X9_forms_139 : zT 3 := @Prod.mk (zT 2) (zT 2) zk_99_zs1_99_l00_X9_forms_136 zk_99_zs1_99_l00_X9_forms_4
noncomputable def h0_X9_forms_82 : zH 4 := (show zT 4 from ((zk_99_zs1_99_l00_X9_forms_138, zk_99_zs1_99_l00_X9_forms_98), zk_99_zs1_99_l00_X9_forms_139), (14, (0, 0)))
noncomputable def zk_99_zs1_99_l00_X9_forms_140 : zT 3 := @Prod.mk (zT 2) (zT 2) (((10, 46656, 37449), (11, 720, 37449)), zk_99_zs1_99_l00_X9_forms_3) (((0, 256, zun 40 256 4294967296), (0, 11, bg_332)), zO1)
noncomputable def h1_X9_forms_82 : zH 4 := (show zT 4 from ((zk_99_zs1_99_l00_X9_forms_138, zk_99_zs1_99_l00_X9_forms_99), zk_99_zs1_99_l00_X9_forms_140), (14, (0, 0)))
theorem ev_X9_forms_82 : f_X9_formsa [zR 1, zI 10] h0_X9_forms_82 (zrk (zU) h1_X9_forms_82) = true := by decide +kernel
noncomputable def g_X9_forms_82 {d : Nat} : List zV → zH d → zP d → Bool := zsmyM [(0, 0), (1, 21), (1, 20), (1, 22), (1, 33), (1, 3), (1, 31), (1, 32), (1, 26), (1, 27), (1, 29), (1, 35), (1, 34), (1, 36)] [zR 1, zI 10] h0_X9_forms_82 (zU) h1_X9_forms_82
theorem mg_X9_forms_82 {d : Nat} : zMet (d := d) X_X9_forms yX9_forms 19 g_X9_forms_82 := zMet_smM m_X9_formsa ev_X9_forms_82
noncomputable def h0_X9_forms_83 : zH 4 := (show zT 4 from (((((25, 63, bg_333), (0, 11, bg_8)), ((0, 11, bg_131), (0, 456, bg_70))), zk_99_zs1_99_l00_X9_forms_98), zk_99_zs1_99_l00_X9_forms_5), (14, (0, 0)))
noncomputable def h1_X9_forms_83 : zH 4 := (show zT 4 from (((((25, 63, bg_334), (0, 11, bg_8)), ((0, 11, bg_131), (0, 456, bg_70))), zk_99_zs1_99_l00_X9_forms_99), zk_99_zs1_99_l00_X9_forms_101), (14, (0, 0)))
theorem ev_X9_forms_83 : f_X9_formsa [zR 1, zI 0] h0_X9_forms_83 (zrk (zU) h1_X9_forms_83) = true := by decide +kernel
noncomputable def g_X9_forms_83 {d : Nat} : List zV → zH d → zP d → Bool := zsmyM [(0, 0), (1, 21), (1, 20), (1, 22), (1, 33), (1, 3), (1, 31), (1, 32), (1, 26), (1, 27), (1, 29), (1, 35), (1, 34), (1, 36)] [zR 1, zI 0] h0_X9_forms_83 (zU) h1_X9_forms_83
theorem mg_X9_forms_83 {d : Nat} : zMet (d := d) X_X9_forms yX9_forms 19 g_X9_forms_83 := zMet_smM m_X9_formsa ev_X9_forms_83
noncomputable def zk_99_zs1_99_l00_X9_forms_141 : zT 2 := @Prod.mk (zT 1) (zT 1) ((25, 63, bg_335), (0, 11, bg_173)) ((0, 11, bg_135), (0, 456, bg_73))
noncomputable def h0_X9_forms_84 : zH 4 := (show zT 4 from ((zk_99_zs1_99_l00_X9_forms_141, zk_99_zs1_99_l00_X9_forms_98), zk_99_zs1_99_l00_X9_forms_103), (14, (0, 0)))
noncomputable def h1_X9_forms_84 : zH 4 := (show zT 4 from ((zk_99_zs1_99_l00_X9_forms_141, zk_99_zs1_99_l00_X9_forms_99), zk_99_zs1_99_l00_X9_forms_105), (14, (0, 0)))
theorem ev_X9_forms_84 : f_X9_formsa [zR 1, zI 1] h0_X9_forms_84 (zrk (zU) h1_X9_forms_84) = true := by decide +kernel
noncomputable def g_X9_forms_84 {d : Nat} : List zV → zH d → zP d → Bool := zsmyM [(0, 0), (1, 21), (1, 20), (1, 22), (1, 33), (1, 3), (1, 31), (1, 32), (1, 26), (1, 27), (1, 29), (1, 35), (1, 34), (1, 36)] [zR 1, zI 1] h0_X9_forms_84 (zU) h1_X9_forms_84
theorem mg_X9_forms_84 {d : Nat} : zMet (d := d) X_X9_forms yX9_forms 19 g_X9_forms_84 := zMet_smM m_X9_formsa ev_X9_forms_84
noncomputable def zk_99_zs1_99_l00_X9_forms_142 : zT 2 := @Prod.mk (zT 1) (zT 1) ((25, 63, bg_336), (0, 11, bg_175)) ((0, 11, bg_176), (0, 456, bg_76))
noncomputable def h0_X9_forms_85 : zH 4 := (show zT 4 from ((zk_99_zs1_99_l00_X9_forms_142, zk_99_zs1_99_l00_X9_forms_98), zk_99_zs1_99_l00_X9_forms_107), (14, (0, 0)))
noncomputable def h1_X9_forms_85 : zH 4 := (show zT 4 from ((zk_99_zs1_99_l00_X9_forms_142, zk_99_zs1_99_l00_X9_forms_99), zk_99_zs1_99_l00_X9_forms_109), (14, (0, 0)))
theorem ev_X9_forms_85 : f_X9_formsa [zR 1, zI 2] h0_X9_forms_85 (zrk (zU) h1_X9_forms_85) = true := by decide +kernel
noncomputable def g_X9_forms_85 {d : Nat} : List zV → zH d → zP d → Bool := zsmyM [(0, 0), (1, 21), (1, 20), (1, 22), (1, 33), (1, 3), (1, 31), (1, 32), (1, 26), (1, 27), (1, 29), (1, 35), (1, 34), (1, 36)] [zR 1, zI 2] h0_X9_forms_85 (zU) h1_X9_forms_85
theorem mg_X9_forms_85 {d : Nat} : zMet (d := d) X_X9_forms yX9_forms 19 g_X9_forms_85 := zMet_smM m_X9_formsa ev_X9_forms_85
noncomputable def zk_99_zs1_99_l00_X9_forms_143 : zT 2 := @Prod.mk (zT 1) (zT 1) ((25, 63, bg_337), (0, 11, bg_178)) ((0, 11, bg_179), (0, 456, bg_79))
noncomputable def h0_X9_forms_86 : zH 4 := (show zT 4 from ((zk_99_zs1_99_l00_X9_forms_143, zk_99_zs1_99_l00_X9_forms_98), zk_99_zs1_99_l00_X9_forms_111), (14, (0, 0)))
noncomputable def h1_X9_forms_86 : zH 4 := (show zT 4 from ((zk_99_zs1_99_l00_X9_forms_143, zk_99_zs1_99_l00_X9_forms_99), zk_99_zs1_99_l00_X9_forms_113), (14, (0, 0)))
theorem ev_X9_forms_86 : f_X9_formsa [zR 1, zI 3] h0_X9_forms_86 (zrk (zU) h1_X9_forms_86) = true := by decide +kernel
noncomputable def g_X9_forms_86 {d : Nat} : List zV → zH d → zP d → Bool := zsmyM [(0, 0), (1, 21), (1, 20), (1, 22), (1, 33), (1, 3), (1, 31), (1, 32), (1, 26), (1, 27), (1, 29), (1, 35), (1, 34), (1, 36)] [zR 1, zI 3] h0_X9_forms_86 (zU) h1_X9_forms_86
theorem mg_X9_forms_86 {d : Nat} : zMet (d := d) X_X9_forms yX9_forms 19 g_X9_forms_86 := zMet_smM m_X9_formsa ev_X9_forms_86
noncomputable def zk_99_zs1_99_l00_X9_forms_144 : zT 2 := @Prod.mk (zT 1) (zT 1) ((25, 63, bg_338), (0, 11, bg_181)) ((0, 11, bg_182), (0, 456, bg_82))
noncomputable def h0_X9_forms_87 : zH 4 := (show zT 4 from ((zk_99_zs1_99_l00_X9_forms_144, zk_99_zs1_99_l00_X9_forms_98), zk_99_zs1_99_l00_X9_forms_115), (14, (0, 0)))
noncomputable def h1_X9_forms_87 : zH 4 := (show zT 4 from ((zk_99_zs1_99_l00_X9_forms_144, zk_99_zs1_99_l00_X9_forms_99), zk_99_zs1_99_l00_X9_forms_117), (14, (0, 0)))
theorem ev_X9_forms_87 : f_X9_formsa [zR 1, zI 4] h0_X9_forms_87 (zrk (zU) h1_X9_forms_87) = true := by decide +kernel
noncomputable def g_X9_forms_87 {d : Nat} : List zV → zH d → zP d → Bool := zsmyM [(0, 0), (1, 21), (1, 20), (1, 22), (1, 33), (1, 3), (1, 31), (1, 32), (1, 26), (1, 27), (1, 29), (1, 35), (1, 34), (1, 36)] [zR 1, zI 4] h0_X9_forms_87 (zU) h1_X9_forms_87
theorem mg_X9_forms_87 {d : Nat} : zMet (d := d) X_X9_forms yX9_forms 19 g_X9_forms_87 := zMet_smM m_X9_formsa ev_X9_forms_87
noncomputable def zk_99_zs1_99_l00_X9_forms_145 : zT 2 := @Prod.mk (zT 1) (zT 1) ((25, 63, bg_339), (0, 11, bg_184)) ((0, 11, bg_185), (0, 456, bg_85))
noncomputable def h0_X9_forms_88 : zH 4 := (show zT 4 from ((zk_99_zs1_99_l00_X9_forms_145, zk_99_zs1_99_l00_X9_forms_98), zk_99_zs1_99_l00_X9_forms_119), (14, (0, 0)))
noncomputable def h1_X9_forms_88 : zH 4 := (show zT 4 from ((zk_99_zs1_99_l00_X9_forms_145, zk_99_zs1_99_l00_X9_forms_99), zk_99_zs1_99_l00_X9_forms_121), (14, (0, 0)))
theorem ev_X9_forms_88 : f_X9_formsa [zR 1, zI 5] h0_X9_forms_88 (zrk (zU) h1_X9_forms_88) = true := by decide +kernel
noncomputable def g_X9_forms_88 {d : Nat} : List zV → zH d → zP d → Bool := zsmyM [(0, 0), (1, 21), (1, 20), (1, 22), (1, 33), (1, 3), (1, 31), (1, 32), (1, 26), (1, 27), (1, 29), (1, 35), (1, 34), (1, 36)] [zR 1, zI 5] h0_X9_forms_88 (zU) h1_X9_forms_88
theorem mg_X9_forms_88 {d : Nat} : zMet (d := d) X_X9_forms yX9_forms 19 g_X9_forms_88 := zMet_smM m_X9_formsa ev_X9_forms_88
noncomputable def zk_99_zs1_99_l00_X9_forms_146 : zT 2 := @Prod.mk (zT 1) (zT 1) ((25, 63, bg_340), (0, 11, bg_187)) ((0, 11, bg_188), (0, 456, bg_88))
noncomputable def h0_X9_forms_89 : zH 4 := (show zT 4 from ((zk_99_zs1_99_l00_X9_forms_146, zk_99_zs1_99_l00_X9_forms_98), zk_99_zs1_99_l00_X9_forms_123), (14, (0, 0)))
noncomputable def h1_X9_forms_89 : zH 4 := (show zT 4 from ((zk_99_zs1_99_l00_X9_forms_146, zk_99_zs1_99_l00_X9_forms_99), zk_99_zs1_99_l00_X9_forms_125), (14, (0, 0)))
theorem ev_X9_forms_89 : f_X9_formsa [zR 1, zI 6] h0_X9_forms_89 (zrk (zU) h1_X9_forms_89) = true := by decide +kernel
noncomputable def g_X9_forms_89 {d : Nat} : List zV → zH d → zP d → Bool := zsmyM [(0, 0), (1, 21), (1, 20), (1, 22), (1, 33), (1, 3), (1, 31), (1, 32), (1, 26), (1, 27), (1, 29), (1, 35), (1, 34), (1, 36)] [zR 1, zI 6] h0_X9_forms_89 (zU) h1_X9_forms_89
theorem mg_X9_forms_89 {d : Nat} : zMet (d := d) X_X9_forms yX9_forms 19 g_X9_forms_89 := zMet_smM m_X9_formsa ev_X9_forms_89
noncomputable def zk_99_zs1_99_l00_X9_forms_147 : zT 2 := @Prod.mk (zT 1) (zT 1) ((25, 63, bg_341), (0, 11, bg_190)) ((0, 11, bg_191), (0, 456, bg_91))
noncomputable def h0_X9_forms_90 : zH 4 := (show zT 4 from ((zk_99_zs1_99_l00_X9_forms_147, zk_99_zs1_99_l00_X9_forms_98), zk_99_zs1_99_l00_X9_forms_127), (14, (0, 0)))
noncomputable def h1_X9_forms_90 : zH 4 := (show zT 4 from ((zk_99_zs1_99_l00_X9_forms_147, zk_99_zs1_99_l00_X9_forms_99), zk_99_zs1_99_l00_X9_forms_129), (14, (0, 0)))
theorem ev_X9_forms_90 : f_X9_formsa [zR 1, zI 7] h0_X9_forms_90 (zrk (zU) h1_X9_forms_90) = true := by decide +kernel
noncomputable def g_X9_forms_90 {d : Nat} : List zV → zH d → zP d → Bool := zsmyM [(0, 0), (1, 21), (1, 20), (1, 22), (1, 33), (1, 3), (1, 31), (1, 32), (1, 26), (1, 27), (1, 29), (1, 35), (1, 34), (1, 36)] [zR 1, zI 7] h0_X9_forms_90 (zU) h1_X9_forms_90
theorem mg_X9_forms_90 {d : Nat} : zMet (d := d) X_X9_forms yX9_forms 19 g_X9_forms_90 := zMet_smM m_X9_formsa ev_X9_forms_90
noncomputable def zk_99_zs1_99_l00_X9_forms_148 : zT 2 := @Prod.mk (zT 1) (zT 1) ((25, 63, bg_342), (0, 11, bg_193)) ((0, 11, bg_194), (0, 456, bg_94))
noncomputable def h0_X9_forms_91 : zH 4 := (show zT 4 from ((zk_99_zs1_99_l00_X9_forms_148, zk_99_zs1_99_l00_X9_forms_98), zk_99_zs1_99_l00_X9_forms_131), (14, (0, 0)))
noncomputable def h1_X9_forms_91 : zH 4 := (show zT 4 from ((zk_99_zs1_99_l00_X9_forms_148, zk_99_zs1_99_l00_X9_forms_99), zk_99_zs1_99_l00_X9_forms_133), (14, (0, 0)))
theorem ev_X9_forms_91 : f_X9_formsa [zR 1, zI 8] h0_X9_forms_91 (zrk (zU) h1_X9_forms_91) = true := by decide +kernel
noncomputable def g_X9_forms_91 {d : Nat} : List zV → zH d → zP d → Bool := zsmyM [(0, 0), (1, 21), (1, 20), (1, 22), (1, 33), (1, 3), (1, 31), (1, 32), (1, 26), (1, 27), (1, 29), (1, 35), (1, 34), (1, 36)] [zR 1, zI 8] h0_X9_forms_91 (zU) h1_X9_forms_91
theorem mg_X9_forms_91 {d : Nat} : zMet (d := d) X_X9_forms yX9_forms 19 g_X9_forms_91 := zMet_smM m_X9_formsa ev_X9_forms_91
noncomputable def zk_99_zs1_99_l00_X9_forms_149 : zT 2 := @Prod.mk (zT 1) (zT 1) ((25, 63, bg_343), (0, 11, bg_196)) ((0, 11, bg_197), (0, 456, bg_97))
noncomputable def h0_X9_forms_92 : zH 4 := (show zT 4 from ((zk_99_zs1_99_l00_X9_forms_149, zk_99_zs1_99_l00_X9_forms_98), zk_99_zs1_99_l00_X9_forms_135), (14, (0, 0)))
noncomputable def h1_X9_forms_92 : zH 4 := (show zT 4 from ((zk_99_zs1_99_l00_X9_forms_149, zk_99_zs1_99_l00_X9_forms_99), zk_99_zs1_99_l00_X9_forms_137), (14, (0, 0)))
theorem ev_X9_forms_92 : f_X9_formsa [zR 1, zI 9] h0_X9_forms_92 (zrk (zU) h1_X9_forms_92) = true := by decide +kernel
noncomputable def g_X9_forms_92 {d : Nat} : List zV → zH d → zP d → Bool := zsmyM [(0, 0), (1, 21), (1, 20), (1, 22), (1, 33), (1, 3), (1, 31), (1, 32), (1, 26), (1, 27), (1, 29), (1, 35), (1, 34), (1, 36)] [zR 1, zI 9] h0_X9_forms_92 (zU) h1_X9_forms_92
theorem mg_X9_forms_92 {d : Nat} : zMet (d := d) X_X9_forms yX9_forms 19 g_X9_forms_92 := zMet_smM m_X9_formsa ev_X9_forms_92
noncomputable def zk_99_zs1_99_l00_X9_forms_150 : zT 2 := @Prod.mk (zT 1) (zT 1) ((25, 63, bg_344), (0, 11, bg_199)) ((0, 11, bg_200), (0, 456, bg_100))
noncomputable def h0_X9_forms_93 : zH 4 := (show zT 4 from ((zk_99_zs1_99_l00_X9_forms_150, zk_99_zs1_99_l00_X9_forms_98), zk_99_zs1_99_l00_X9_forms_139), (14, (0, 0)))
noncomputable def h1_X9_forms_93 : zH 4 := (show zT 4 from ((zk_99_zs1_99_l00_X9_forms_150, zk_99_zs1_99_l00_X9_forms_99), zk_99_zs1_99_l00_X9_forms_140), (14, (0, 0)))
theorem ev_X9_forms_93 : f_X9_formsa [zR 1, zI 10] h0_X9_forms_93 (zrk (zU) h1_X9_forms_93) = true := by decide +kernel
noncomputable def g_X9_forms_93 {d : Nat} : List zV → zH d → zP d → Bool := zsmyM [(0, 0), (1, 21), (1, 20), (1, 22), (1, 33), (1, 3), (1, 31), (1, 32), (1, 26), (1, 27), (1, 29), (1, 35), (1, 34), (1, 36)] [zR 1, zI 10] h0_X9_forms_93 (zU) h1_X9_forms_93
theorem mg_X9_forms_93 {d : Nat} : zMet (d := d) X_X9_forms yX9_forms 19 g_X9_forms_93 := zMet_smM m_X9_formsa ev_X9_forms_93
noncomputable def h0_X9_forms_94 : zH 4 := (show zT 4 from (((((25, 63, bg_345), (0, 11, bg_8)), ((0, 11, bg_131), (0, 456, bg_70))), zk_99_zs1_99_l00_X9_forms_98), zk_99_zs1_99_l00_X9_forms_5), (14, (0, 0)))
noncomputable def h1_X9_forms_94 : zH 4 := (show zT 4 from (((((25, 63, bg_346), (0, 11, bg_8)), ((0, 11, bg_131), (0, 456, bg_70))), zk_99_zs1_99_l00_X9_forms_99), zk_99_zs1_99_l00_X9_forms_101), (14, (0, 0)))
theorem ev_X9_forms_94 : f_X9_formsa [zR 1, zI 0] h0_X9_forms_94 (zrk (zU) h1_X9_forms_94) = true := by decide +kernel
noncomputable def g_X9_forms_94 {d : Nat} : List zV → zH d → zP d → Bool := zsmyM [(0, 0), (1, 21), (1, 20), (1, 22), (1, 33), (1, 3), (1, 31), (1, 32), (1, 26), (1, 27), (1, 29), (1, 35), (1, 34), (1, 36)] [zR 1, zI 0] h0_X9_forms_94 (zU) h1_X9_forms_94
theorem mg_X9_forms_94 {d : Nat} : zMet (d := d) X_X9_forms yX9_forms 19 g_X9_forms_94 := zMet_smM m_X9_formsa ev_X9_forms_94
noncomputable def zk_99_zs1_99_l00_X9_forms_151 : zT 2 := @Prod.mk (zT 1) (zT 1) ((25, 63, bg_347), (0, 11, bg_173)) ((0, 11, bg_135), (0, 456, bg_73))
noncomputable def h0_X9_forms_95 : zH 4 := (show zT 4 from ((zk_99_zs1_99_l00_X9_forms_151, zk_99_zs1_99_l00_X9_forms_98), zk_99_zs1_99_l00_X9_forms_103), (14, (0, 0)))
noncomputable def h1_X9_forms_95 : zH 4 := (show zT 4 from ((zk_99_zs1_99_l00_X9_forms_151, zk_99_zs1_99_l00_X9_forms_99), zk_99_zs1_99_l00_X9_forms_105), (14, (0, 0)))
theorem ev_X9_forms_95 : f_X9_formsa [zR 1, zI 1] h0_X9_forms_95 (zrk (zU) h1_X9_forms_95) = true := by decide +kernel
noncomputable def g_X9_forms_95 {d : Nat} : List zV → zH d → zP d → Bool := zsmyM [(0, 0), (1, 21), (1, 20), (1, 22), (1, 33), (1, 3), (1, 31), (1, 32), (1, 26), (1, 27), (1, 29), (1, 35), (1, 34), (1, 36)] [zR 1, zI 1] h0_X9_forms_95 (zU) h1_X9_forms_95
theorem mg_X9_forms_95 {d : Nat} : zMet (d := d) X_X9_forms yX9_forms 19 g_X9_forms_95 := zMet_smM m_X9_formsa ev_X9_forms_95
noncomputable def zk_99_zs1_99_l00_X9_forms_152 : zT 2 := @Prod.mk (zT 1) (zT 1) ((25, 63, bg_348), (0, 11, bg_175)) ((0, 11, bg_176), (0, 456, bg_76))
noncomputable def h0_X9_forms_96 : zH 4 := (show zT 4 from ((zk_99_zs1_99_l00_X9_forms_152, zk_99_zs1_99_l00_X9_forms_98), zk_99_zs1_99_l00_X9_forms_107), (14, (0, 0)))
noncomputable def h1_X9_forms_96 : zH 4 := (show zT 4 from ((zk_99_zs1_99_l00_X9_forms_152, zk_99_zs1_99_l00_X9_forms_99), zk_99_zs1_99_l00_X9_forms_109), (14, (0, 0)))
theorem ev_X9_forms_96 : f_X9_formsa [zR 1, zI 2] h0_X9_forms_96 (zrk (zU) h1_X9_forms_96) = true := by decide +kernel
noncomputable def g_X9_forms_96 {d : Nat} : List zV → zH d → zP d → Bool := zsmyM [(0, 0), (1, 21), (1, 20), (1, 22), (1, 33), (1, 3), (1, 31), (1, 32), (1, 26), (1, 27), (1, 29), (1, 35), (1, 34), (1, 36)] [zR 1, zI 2] h0_X9_forms_96 (zU) h1_X9_forms_96
theorem mg_X9_forms_96 {d : Nat} : zMet (d := d) X_X9_forms yX9_forms 19 g_X9_forms_96 := zMet_smM m_X9_formsa ev_X9_forms_96
noncomputable def zk_99_zs1_99_l00_X9_forms_153 : zT 2 := @Prod.mk (zT 1) (zT 1) ((25, 63, bg_349), (0, 11, bg_178)) ((0, 11, bg_179), (0, 456, bg_79))
noncomputable def h0_X9_forms_97 : zH 4 := (show zT 4 from ((zk_99_zs1_99_l00_X9_forms_153, zk_99_zs1_99_l00_X9_forms_98), zk_99_zs1_99_l00_X9_forms_111), (14, (0, 0)))
noncomputable def h1_X9_forms_97 : zH 4 := (show zT 4 from ((zk_99_zs1_99_l00_X9_forms_153, zk_99_zs1_99_l00_X9_forms_99), zk_99_zs1_99_l00_X9_forms_113), (14, (0, 0)))
theorem ev_X9_forms_97 : f_X9_formsa [zR 1, zI 3] h0_X9_forms_97 (zrk (zU) h1_X9_forms_97) = true := by decide +kernel
noncomputable def g_X9_forms_97 {d : Nat} : List zV → zH d → zP d → Bool := zsmyM [(0, 0), (1, 21), (1, 20), (1, 22), (1, 33), (1, 3), (1, 31), (1, 32), (1, 26), (1, 27), (1, 29), (1, 35), (1, 34), (1, 36)] [zR 1, zI 3] h0_X9_forms_97 (zU) h1_X9_forms_97
theorem mg_X9_forms_97 {d : Nat} : zMet (d := d) X_X9_forms yX9_forms 19 g_X9_forms_97 := zMet_smM m_X9_formsa ev_X9_forms_97
noncomputable def zk_99_zs1_99_l00_X9_forms_154 : zT 2 := @Prod.mk (zT 1) (zT 1) ((25, 63, bg_350), (0, 11, bg_181)) ((0, 11, bg_182), (0, 456, bg_82))
noncomputable def h0_X9_forms_98 : zH 4 := (show zT 4 from ((zk_99_zs1_99_l00_X9_forms_154, zk_99_zs1_99_l00_X9_forms_98), zk_99_zs1_99_l00_X9_forms_115), (14, (0, 0)))
noncomputable def h1_X9_forms_98 : zH 4 := (show zT 4 from ((zk_99_zs1_99_l00_X9_forms_154, zk_99_zs1_99_l00_X9_forms_99), zk_99_zs1_99_l00_X9_forms_117), (14, (0, 0)))
theorem ev_X9_forms_98 : f_X9_formsa [zR 1, zI 4] h0_X9_forms_98 (zrk (zU) h1_X9_forms_98) = true := by decide +kernel
noncomputable def g_X9_forms_98 {d : Nat} : List zV → zH d → zP d → Bool := zsmyM [(0, 0), (1, 21), (1, 20), (1, 22), (1, 33), (1, 3), (1, 31), (1, 32), (1, 26), (1, 27), (1, 29), (1, 35), (1, 34), (1, 36)] [zR 1, zI 4] h0_X9_forms_98 (zU) h1_X9_forms_98
theorem mg_X9_forms_98 {d : Nat} : zMet (d := d) X_X9_forms yX9_forms 19 g_X9_forms_98 := zMet_smM m_X9_formsa ev_X9_forms_98
noncomputable def zk_99_zs1_99_l00_X9_forms_155 : zT 2 := @Prod.mk (zT 1) (zT 1) ((25, 63, bg_351), (0, 11, bg_184)) ((0, 11, bg_185), (0, 456, bg_85))
noncomputable def h0_X9_forms_99 : zH 4 := (show zT 4 from ((zk_99_zs1_99_l00_X9_forms_155, zk_99_zs1_99_l00_X9_forms_98), zk_99_zs1_99_l00_X9_forms_119), (14, (0, 0)))
noncomputable def h1_X9_forms_99 : zH 4 := (show zT 4 from ((zk_99_zs1_99_l00_X9_forms_155, zk_99_zs1_99_l00_X9_forms_99), zk_99_zs1_99_l00_X9_forms_121), (14, (0, 0)))
theorem ev_X9_forms_99 : f_X9_formsa [zR 1, zI 5] h0_X9_forms_99 (zrk (zU) h1_X9_forms_99) = true := by decide +kernel
noncomputable def g_X9_forms_99 {d : Nat} : List zV → zH d → zP d → Bool := zsmyM [(0, 0), (1, 21), (1, 20), (1, 22), (1, 33), (1, 3), (1, 31), (1, 32), (1, 26), (1, 27), (1, 29), (1, 35), (1, 34), (1, 36)] [zR 1, zI 5] h0_X9_forms_99 (zU) h1_X9_forms_99
theorem mg_X9_forms_99 {d : Nat} : zMet (d := d) X_X9_forms yX9_forms 19 g_X9_forms_99 := zMet_smM m_X9_formsa ev_X9_forms_99
noncomputable def zk_99_zs1_99_l00_X9_forms_156 : zT 2 := @Prod.mk (zT 1) (zT 1) ((25, 63, bg_352), (0, 11, bg_187)) ((0, 11, bg_188), (0, 456, bg_88))
noncomputable def h0_X9_forms_100 : zH 4 := (show zT 4 from ((zk_99_zs1_99_l00_X9_forms_156, zk_99_zs1_99_l00_X9_forms_98), zk_99_zs1_99_l00_X9_forms_123), (14, (0, 0)))
noncomputable def h1_X9_forms_100 : zH 4 := (show zT 4 from ((zk_99_zs1_99_l00_X9_forms_156, zk_99_zs1_99_l00_X9_forms_99), zk_99_zs1_99_l00_X9_forms_125), (14, (0, 0)))
theorem ev_X9_forms_100 : f_X9_formsa [zR 1, zI 6] h0_X9_forms_100 (zrk (zU) h1_X9_forms_100) = true := by decide +kernel
noncomputable def g_X9_forms_100 {d : Nat} : List zV → zH d → zP d → Bool := zsmyM [(0, 0), (1, 21), (1, 20), (1, 22), (1, 33), (1, 3), (1, 31), (1, 32), (1, 26), (1, 27), (1, 29), (1, 35), (1, 34), (1, 36)] [zR 1, zI 6] h0_X9_forms_100 (zU) h1_X9_forms_100
theorem mg_X9_forms_100 {d : Nat} : zMet (d := d) X_X9_forms yX9_forms 19 g_X9_forms_100 := zMet_smM m_X9_formsa ev_X9_forms_100
noncomputable def zk_99_zs1_99_l00_X9_forms_157 : zT 2 := @Prod.mk (zT 1) (zT 1) ((25, 63, bg_353), (0, 11, bg_190)) ((0, 11, bg_191), (0, 456, bg_91))
noncomputable def h0_X9_forms_101 : zH 4 := (show zT 4 from ((zk_99_zs1_99_l00_X9_forms_157, zk_99_zs1_99_l00_X9_forms_98), zk_99_zs1_99_l00_X9_forms_127), (14, (0, 0)))
noncomputable def h1_X9_forms_101 : zH 4 := (show zT 4 from ((zk_99_zs1_99_l00_X9_forms_157, zk_99_zs1_99_l00_X9_forms_99), zk_99_zs1_99_l00_X9_forms_129), (14, (0, 0)))
theorem ev_X9_forms_101 : f_X9_formsa [zR 1, zI 7] h0_X9_forms_101 (zrk (zU) h1_X9_forms_101) = true := by decide +kernel
noncomputable def g_X9_forms_101 {d : Nat} : List zV → zH d → zP d → Bool := zsmyM [(0, 0), (1, 21), (1, 20), (1, 22), (1, 33), (1, 3), (1, 31), (1, 32), (1, 26), (1, 27), (1, 29), (1, 35), (1, 34), (1, 36)] [zR 1, zI 7] h0_X9_forms_101 (zU) h1_X9_forms_101
theorem mg_X9_forms_101 {d : Nat} : zMet (d := d) X_X9_forms yX9_forms 19 g_X9_forms_101 := zMet_smM m_X9_formsa ev_X9_forms_101
noncomputable def zk_99_zs1_99_l00_X9_forms_158 : zT 2 := @Prod.mk (zT 1) (zT 1) ((25, 63, bg_354), (0, 11, bg_193)) ((0, 11, bg_194), (0, 456, bg_94))
noncomputable def h0_X9_forms_102 : zH 4 := (show zT 4 from ((zk_99_zs1_99_l00_X9_forms_158, zk_99_zs1_99_l00_X9_forms_98), zk_99_zs1_99_l00_X9_forms_131), (14, (0, 0)))
noncomputable def h1_X9_forms_102 : zH 4 := (show zT 4 from ((zk_99_zs1_99_l00_X9_forms_158, zk_99_zs1_99_l00_X9_forms_99), zk_99_zs1_99_l00_X9_forms_133), (14, (0, 0)))
theorem ev_X9_forms_102 : f_X9_formsa [zR 1, zI 8] h0_X9_forms_102 (zrk (zU) h1_X9_forms_102) = true := by decide +kernel
noncomputable def g_X9_forms_102 {d : Nat} : List zV → zH d → zP d → Bool := zsmyM [(0, 0), (1, 21), (1, 20), (1, 22), (1, 33), (1, 3), (1, 31), (1, 32), (1, 26), (1, 27), (1, 29), (1, 35), (1, 34), (1, 36)] [zR 1, zI 8] h0_X9_forms_102 (zU) h1_X9_forms_102
theorem mg_X9_forms_102 {d : Nat} : zMet (d := d) X_X9_forms yX9_forms 19 g_X9_forms_102 := zMet_smM m_X9_formsa ev_X9_forms_102
noncomputable def zk_99_zs1_99_l00_X9_forms_159 : zT 2 := @Prod.mk (zT 1) (zT 1) ((25, 63, bg_355), (0, 11, bg_196)) ((0, 11, bg_197), (0, 456, bg_97))
noncomputable def h0_X9_forms_103 : zH 4 := (show zT 4 from ((zk_99_zs1_99_l00_X9_forms_159, zk_99_zs1_99_l00_X9_forms_98), zk_99_zs1_99_l00_X9_forms_135), (14, (0, 0)))
noncomputable def h1_X9_forms_103 : zH 4 := (show zT 4 from ((zk_99_zs1_99_l00_X9_forms_159, zk_99_zs1_99_l00_X9_forms_99), zk_99_zs1_99_l00_X9_forms_137), (14, (0, 0)))
theorem ev_X9_forms_103 : f_X9_formsa [zR 1, zI 9] h0_X9_forms_103 (zrk (zU) h1_X9_forms_103) = true := by decide +kernel
noncomputable def g_X9_forms_103 {d : Nat} : List zV → zH d → zP d → Bool := zsmyM [(0, 0), (1, 21), (1, 20), (1, 22), (1, 33), (1, 3), (1, 31), (1, 32), (1, 26), (1, 27), (1, 29), (1, 35), (1, 34), (1, 36)] [zR 1, zI 9] h0_X9_forms_103 (zU) h1_X9_forms_103
theorem mg_X9_forms_103 {d : Nat} : zMet (d := d) X_X9_forms yX9_forms 19 g_X9_forms_103 := zMet_smM m_X9_formsa ev_X9_forms_103
noncomputable def zk_99_zs1_99_l00_X9_forms_160 : zT 2 := @Prod.mk (zT 1) (zT 1) ((25, 63, bg_356), (0, 11, bg_199)) ((0, 11, bg_200), (0, 456, bg_100))
noncomputable def h0_X9_forms_104 : zH 4 := (show zT 4 from ((zk_99_zs1_99_l00_X9_forms_160, zk_99_zs1_99_l00_X9_forms_98), zk_99_zs1_99_l00_X9_forms_139), (14, (0, 0)))
noncomputable def h1_X9_forms_104 : zH 4 := (show zT 4 from ((zk_99_zs1_99_l00_X9_forms_160, zk_99_zs1_99_l00_X9_forms_99), zk_99_zs1_99_l00_X9_forms_140), (14, (0, 0)))
theorem ev_X9_forms_104 : f_X9_formsa [zR 1, zI 10] h0_X9_forms_104 (zrk (zU) h1_X9_forms_104) = true := by decide +kernel
noncomputable def g_X9_forms_104 {d : Nat} : List zV → zH d → zP d → Bool := zsmyM [(0, 0), (1, 21), (1, 20), (1, 22), (1, 33), (1, 3), (1, 31), (1, 32), (1, 26), (1, 27), (1, 29), (1, 35), (1, 34), (1, 36)] [zR 1, zI 10] h0_X9_forms_104 (zU) h1_X9_forms_104
theorem mg_X9_forms_104 {d : Nat} : zMet (d := d) X_X9_forms yX9_forms 19 g_X9_forms_104 := zMet_smM m_X9_formsa ev_X9_forms_104
noncomputable def h0_X9_forms_105 : zH 4 := (show zT 4 from (((((25, 63, bg_357), (0, 11, bg_8)), ((0, 11, bg_131), (0, 456, bg_70))), zk_99_zs1_99_l00_X9_forms_98), zk_99_zs1_99_l00_X9_forms_5), (14, (0, 0)))
noncomputable def h1_X9_forms_105 : zH 4 := (show zT 4 from (((((25, 63, bg_358), (0, 11, bg_8)), ((0, 11, bg_131), (0, 456, bg_70))), zk_99_zs1_99_l00_X9_forms_99), zk_99_zs1_99_l00_X9_forms_101), (14, (0, 0)))
theorem ev_X9_forms_105 : f_X9_formsa [zR 1, zI 0] h0_X9_forms_105 (zrk (zU) h1_X9_forms_105) = true := by decide +kernel
noncomputable def g_X9_forms_105 {d : Nat} : List zV → zH d → zP d → Bool := zsmyM [(0, 0), (1, 21), (1, 20), (1, 22), (1, 33), (1, 3), (1, 31), (1, 32), (1, 26), (1, 27), (1, 29), (1, 35), (1, 34), (1, 36)] [zR 1, zI 0] h0_X9_forms_105 (zU) h1_X9_forms_105
theorem mg_X9_forms_105 {d : Nat} : zMet (d := d) X_X9_forms yX9_forms 19 g_X9_forms_105 := zMet_smM m_X9_formsa ev_X9_forms_105
noncomputable def zk_99_zs1_99_l00_X9_forms_161 : zT 2 := @Prod.mk (zT 1) (zT 1) ((25, 63, bg_359), (0, 11, bg_173)) ((0, 11, bg_135), (0, 456, bg_73))
noncomputable def h0_X9_forms_106 : zH 4 := (show zT 4 from ((zk_99_zs1_99_l00_X9_forms_161, zk_99_zs1_99_l00_X9_forms_98), zk_99_zs1_99_l00_X9_forms_103), (14, (0, 0)))
noncomputable def h1_X9_forms_106 : zH 4 := (show zT 4 from ((zk_99_zs1_99_l00_X9_forms_161, zk_99_zs1_99_l00_X9_forms_99), zk_99_zs1_99_l00_X9_forms_105), (14, (0, 0)))
theorem ev_X9_forms_106 : f_X9_formsa [zR 1, zI 1] h0_X9_forms_106 (zrk (zU) h1_X9_forms_106) = true := by decide +kernel
noncomputable def g_X9_forms_106 {d : Nat} : List zV → zH d → zP d → Bool := zsmyM [(0, 0), (1, 21), (1, 20), (1, 22), (1, 33), (1, 3), (1, 31), (1, 32), (1, 26), (1, 27), (1, 29), (1, 35), (1, 34), (1, 36)] [zR 1, zI 1] h0_X9_forms_106 (zU) h1_X9_forms_106
theorem mg_X9_forms_106 {d : Nat} : zMet (d := d) X_X9_forms yX9_forms 19 g_X9_forms_106 := zMet_smM m_X9_formsa ev_X9_forms_106
noncomputable def zk_99_zs1_99_l00_X9_forms_162 : zT 2 := @Prod.mk (zT 1) (zT 1) ((25, 63, bg_360), (0, 11, bg_175)) ((0, 11, bg_176), (0, 456, bg_76))
noncomputable def h0_X9_forms_107 : zH 4 := (show zT 4 from ((zk_99_zs1_99_l00_X9_forms_162, zk_99_zs1_99_l00_X9_forms_98), zk_99_zs1_99_l00_X9_forms_107), (14, (0, 0)))
noncomputable def h1_X9_forms_107 : zH 4 := (show zT 4 from ((zk_99_zs1_99_l00_X9_forms_162, zk_99_zs1_99_l00_X9_forms_99), zk_99_zs1_99_l00_X9_forms_109), (14, (0, 0)))
theorem ev_X9_forms_107 : f_X9_formsa [zR 1, zI 2] h0_X9_forms_107 (zrk (zU) h1_X9_forms_107) = true := by decide +kernel
noncomputable def g_X9_forms_107 {d : Nat} : List zV → zH d → zP d → Bool := zsmyM [(0, 0), (1, 21), (1, 20), (1, 22), (1, 33), (1, 3), (1, 31), (1, 32), (1, 26), (1, 27), (1, 29), (1, 35), (1, 34), (1, 36)] [zR 1, zI 2] h0_X9_forms_107 (zU) h1_X9_forms_107
theorem mg_X9_forms_107 {d : Nat} : zMet (d := d) X_X9_forms yX9_forms 19 g_X9_forms_107 := zMet_smM m_X9_formsa ev_X9_forms_107
noncomputable def zk_99_zs1_99_l00_X9_forms_163 : zT 2 := @Prod.mk (zT 1) (zT 1) ((25, 63, bg_361), (0, 11, bg_178)) ((0, 11, bg_179), (0, 456, bg_79))
noncomputable def h0_X9_forms_108 : zH 4 := (show zT 4 from ((zk_99_zs1_99_l00_X9_forms_163, zk_99_zs1_99_l00_X9_forms_98), zk_99_zs1_99_l00_X9_forms_111), (14, (0, 0)))
noncomputable def h1_X9_forms_108 : zH 4 := (show zT 4 from ((zk_99_zs1_99_l00_X9_forms_163, zk_99_zs1_99_l00_X9_forms_99), zk_99_zs1_99_l00_X9_forms_113), (14, (0, 0)))
theorem ev_X9_forms_108 : f_X9_formsa [zR 1, zI 3] h0_X9_forms_108 (zrk (zU) h1_X9_forms_108) = true := by decide +kernel
noncomputable def g_X9_forms_108 {d : Nat} : List zV → zH d → zP d → Bool := zsmyM [(0, 0), (1, 21), (1, 20), (1, 22), (1, 33), (1, 3), (1, 31), (1, 32), (1, 26), (1, 27), (1, 29), (1, 35), (1, 34), (1, 36)] [zR 1, zI 3] h0_X9_forms_108 (zU) h1_X9_forms_108
theorem mg_X9_forms_108 {d : Nat} : zMet (d := d) X_X9_forms yX9_forms 19 g_X9_forms_108 := zMet_smM m_X9_formsa ev_X9_forms_108
noncomputable def zk_99_zs1_99_l00_X9_forms_164 : zT 2 := @Prod.mk (zT 1) (zT 1) ((25, 63, bg_362), (0, 11, bg_181)) ((0, 11, bg_182), (0, 456, bg_82))
noncomputable def h0_X9_forms_109 : zH 4 := (show zT 4 from ((zk_99_zs1_99_l00_X9_forms_164, zk_99_zs1_99_l00_X9_forms_98), zk_99_zs1_99_l00_X9_forms_115), (14, (0, 0)))
noncomputable def h1_X9_forms_109 : zH 4 := (show zT 4 from ((zk_99_zs1_99_l00_X9_forms_164, zk_99_zs1_99_l00_X9_forms_99), zk_99_zs1_99_l00_X9_forms_117), (14, (0, 0)))
theorem ev_X9_forms_109 : f_X9_formsa [zR 1, zI 4] h0_X9_forms_109 (zrk (zU) h1_X9_forms_109) = true := by decide +kernel
noncomputable def g_X9_forms_109 {d : Nat} : List zV → zH d → zP d → Bool := zsmyM [(0, 0), (1, 21), (1, 20), (1, 22), (1, 33), (1, 3), (1, 31), (1, 32), (1, 26), (1, 27), (1, 29), (1, 35), (1, 34), (1, 36)] [zR 1, zI 4] h0_X9_forms_109 (zU) h1_X9_forms_109
theorem mg_X9_forms_109 {d : Nat} : zMet (d := d) X_X9_forms yX9_forms 19 g_X9_forms_109 := zMet_smM m_X9_formsa ev_X9_forms_109
noncomputable def zk_99_zs1_99_l00_X9_forms_165 : zT 2 := @Prod.mk (zT 1) (zT 1) ((25, 63, bg_363), (0, 11, bg_184)) ((0, 11, bg_185), (0, 456, bg_85))
noncomputable def h0_X9_forms_110 : zH 4 := (show zT 4 from ((zk_99_zs1_99_l00_X9_forms_165, zk_99_zs1_99_l00_X9_forms_98), zk_99_zs1_99_l00_X9_forms_119), (14, (0, 0)))
noncomputable def h1_X9_forms_110 : zH 4 := (show zT 4 from ((zk_99_zs1_99_l00_X9_forms_165, zk_99_zs1_99_l00_X9_forms_99), zk_99_zs1_99_l00_X9_forms_121), (14, (0, 0)))
theorem ev_X9_forms_110 : f_X9_formsa [zR 1, zI 5] h0_X9_forms_110 (zrk (zU) h1_X9_forms_110) = true := by decide +kernel
noncomputable def g_X9_forms_110 {d : Nat} : List zV → zH d → zP d → Bool := zsmyM [(0, 0), (1, 21), (1, 20), (1, 22), (1, 33), (1, 3), (1, 31), (1, 32), (1, 26), (1, 27), (1, 29), (1, 35), (1, 34), (1, 36)] [zR 1, zI 5] h0_X9_forms_110 (zU) h1_X9_forms_110
theorem mg_X9_forms_110 {d : Nat} : zMet (d := d) X_X9_forms yX9_forms 19 g_X9_forms_110 := zMet_smM m_X9_formsa ev_X9_forms_110
noncomputable def zk_99_zs1_99_l00_X9_forms_166 : zT 2 := @Prod.mk (zT 1) (zT 1) ((25, 63, bg_364), (0, 11, bg_187)) ((0, 11, bg_188), (0, 456, bg_88))
noncomputable def h0_X9_forms_111 : zH 4 := (show zT 4 from ((zk_99_zs1_99_l00_X9_forms_166, zk_99_zs1_99_l00_X9_forms_98), zk_99_zs1_99_l00_X9_forms_123), (14, (0, 0)))
noncomputable def h1_X9_forms_111 : zH 4 := (show zT 4 from ((zk_99_zs1_99_l00_X9_forms_166, zk_99_zs1_99_l00_X9_forms_99), zk_99_zs1_99_l00_X9_forms_125), (14, (0, 0)))
theorem ev_X9_forms_111 : f_X9_formsa [zR 1, zI 6] h0_X9_forms_111 (zrk (zU) h1_X9_forms_111) = true := by decide +kernel
noncomputable def g_X9_forms_111 {d : Nat} : List zV → zH d → zP d → Bool := zsmyM [(0, 0), (1, 21), (1, 20), (1, 22), (1, 33), (1, 3), (1, 31), (1, 32), (1, 26), (1, 27), (1, 29), (1, 35), (1, 34), (1, 36)] [zR 1, zI 6] h0_X9_forms_111 (zU) h1_X9_forms_111
theorem mg_X9_forms_111 {d : Nat} : zMet (d := d) X_X9_forms yX9_forms 19 g_X9_forms_111 := zMet_smM m_X9_formsa ev_X9_forms_111
noncomputable def zk_99_zs1_99_l00_X9_forms_167 : zT 2 := @Prod.mk (zT 1) (zT 1) ((25, 63, bg_365), (0, 11, bg_190)) ((0, 11, bg_191), (0, 456, bg_91))
noncomputable def h0_X9_forms_112 : zH 4 := (show zT 4 from ((zk_99_zs1_99_l00_X9_forms_167, zk_99_zs1_99_l00_X9_forms_98), zk_99_zs1_99_l00_X9_forms_127), (14, (0, 0)))
noncomputable def h1_X9_forms_112 : zH 4 := (show zT 4 from ((zk_99_zs1_99_l00_X9_forms_167, zk_99_zs1_99_l00_X9_forms_99), zk_99_zs1_99_l00_X9_forms_129), (14, (0, 0)))
theorem ev_X9_forms_112 : f_X9_formsa [zR 1, zI 7] h0_X9_forms_112 (zrk (zU) h1_X9_forms_112) = true := by decide +kernel
noncomputable def g_X9_forms_112 {d : Nat} : List zV → zH d → zP d → Bool := zsmyM [(0, 0), (1, 21), (1, 20), (1, 22), (1, 33), (1, 3), (1, 31), (1, 32), (1, 26), (1, 27), (1, 29), (1, 35), (1, 34), (1, 36)] [zR 1, zI 7] h0_X9_forms_112 (zU) h1_X9_forms_112
theorem mg_X9_forms_112 {d : Nat} : zMet (d := d) X_X9_forms yX9_forms 19 g_X9_forms_112 := zMet_smM m_X9_formsa ev_X9_forms_112
noncomputable def zk_99_zs1_99_l00_X9_forms_168 : zT 2 := @Prod.mk (zT 1) (zT 1) ((25, 63, bg_366), (0, 11, bg_193)) ((0, 11, bg_194), (0, 456, bg_94))
noncomputable def h0_X9_forms_113 : zH 4 := (show zT 4 from ((zk_99_zs1_99_l00_X9_forms_168, zk_99_zs1_99_l00_X9_forms_98), zk_99_zs1_99_l00_X9_forms_131), (14, (0, 0)))
noncomputable def h1_X9_forms_113 : zH 4 := (show zT 4 from ((zk_99_zs1_99_l00_X9_forms_168, zk_99_zs1_99_l00_X9_forms_99), zk_99_zs1_99_l00_X9_forms_133), (14, (0, 0)))
theorem ev_X9_forms_113 : f_X9_formsa [zR 1, zI 8] h0_X9_forms_113 (zrk (zU) h1_X9_forms_113) = true := by decide +kernel
noncomputable def g_X9_forms_113 {d : Nat} : List zV → zH d → zP d → Bool := zsmyM [(0, 0), (1, 21), (1, 20), (1, 22), (1, 33), (1, 3), (1, 31), (1, 32), (1, 26), (1, 27), (1, 29), (1, 35), (1, 34), (1, 36)] [zR 1, zI 8] h0_X9_forms_113 (zU) h1_X9_forms_113
theorem mg_X9_forms_113 {d : Nat} : zMet (d := d) X_X9_forms yX9_forms 19 g_X9_forms_113 := zMet_smM m_X9_formsa ev_X9_forms_113
noncomputable def zk_99_zs1_99_l00_X9_forms_169 : zT 2 := @Prod.mk (zT 1) (zT 1) ((25, 63, bg_367), (0, 11, bg_196)) ((0, 11, bg_197), (0, 456, bg_97))
noncomputable def h0_X9_forms_114 : zH 4 := (show zT 4 from ((zk_99_zs1_99_l00_X9_forms_169, zk_99_zs1_99_l00_X9_forms_98), zk_99_zs1_99_l00_X9_forms_135), (14, (0, 0)))
noncomputable def h1_X9_forms_114 : zH 4 := (show zT 4 from ((zk_99_zs1_99_l00_X9_forms_169, zk_99_zs1_99_l00_X9_forms_99), zk_99_zs1_99_l00_X9_forms_137), (14, (0, 0)))
theorem ev_X9_forms_114 : f_X9_formsa [zR 1, zI 9] h0_X9_forms_114 (zrk (zU) h1_X9_forms_114) = true := by decide +kernel
noncomputable def g_X9_forms_114 {d : Nat} : List zV → zH d → zP d → Bool := zsmyM [(0, 0), (1, 21), (1, 20), (1, 22), (1, 33), (1, 3), (1, 31), (1, 32), (1, 26), (1, 27), (1, 29), (1, 35), (1, 34), (1, 36)] [zR 1, zI 9] h0_X9_forms_114 (zU) h1_X9_forms_114
theorem mg_X9_forms_114 {d : Nat} : zMet (d := d) X_X9_forms yX9_forms 19 g_X9_forms_114 := zMet_smM m_X9_formsa ev_X9_forms_114
noncomputable def zk_99_zs1_99_l00_X9_forms_170 : zT 2 := @Prod.mk (zT 1) (zT 1) ((25, 63, bg_368), (0, 11, bg_199)) ((0, 11, bg_200), (0, 456, bg_100))
noncomputable def h0_X9_forms_115 : zH 4 := (show zT 4 from ((zk_99_zs1_99_l00_X9_forms_170, zk_99_zs1_99_l00_X9_forms_98), zk_99_zs1_99_l00_X9_forms_139), (14, (0, 0)))
noncomputable def h1_X9_forms_115 : zH 4 := (show zT 4 from ((zk_99_zs1_99_l00_X9_forms_170, zk_99_zs1_99_l00_X9_forms_99), zk_99_zs1_99_l00_X9_forms_140), (14, (0, 0)))
theorem ev_X9_forms_115 : f_X9_formsa [zR 1, zI 10] h0_X9_forms_115 (zrk (zU) h1_X9_forms_115) = true := by decide +kernel
noncomputable def g_X9_forms_115 {d : Nat} : List zV → zH d → zP d → Bool := zsmyM [(0, 0), (1, 21), (1, 20), (1, 22), (1, 33), (1, 3), (1, 31), (1, 32), (1, 26), (1, 27), (1, 29), (1, 35), (1, 34), (1, 36)] [zR 1, zI 10] h0_X9_forms_115 (zU) h1_X9_forms_115
theorem mg_X9_forms_115 {d : Nat} : zMet (d := d) X_X9_forms yX9_forms 19 g_X9_forms_115 := zMet_smM m_X9_formsa ev_X9_forms_115
set_option maxRecDepth 100000 in
noncomputable def gs_X9_forms {d : Nat} : List zV → zH d → zP d → Bool := zwt (hsK (hsK (hsF 0 [] 0) (hsF 0 [] 1)) (hsL 1)) [(2100225, g_X9_forms_0), (2101249, g_X9_forms_1), (2103297, g_X9_forms_2), (2105345, g_X9_forms_3), (3148801, g_X9_forms_4), (3148802, g_X9_forms_5), (3149825, g_X9_forms_6), (3149826, g_X9_forms_7), (3151873, g_X9_forms_8), (3151874, g_X9_forms_9), (3153921, g_X9_forms_10), (3153922, g_X9_forms_11), (4197377, g_X9_forms_12), (4197378, g_X9_forms_13), (4197379, g_X9_forms_14), (4198401, g_X9_forms_15), (4198402, g_X9_forms_16), (4198403, g_X9_forms_17), (4200449, g_X9_forms_18), (4200450, g_X9_forms_19), (4200451, g_X9_forms_20), (4202497, g_X9_forms_21), (4202498, g_X9_forms_22), (4202499, g_X9_forms_23), (5245953, g_X9_forms_24), (5245954, g_X9_forms_25), (5245955, g_X9_forms_26), (5245956, g_X9_forms_27), (5245957, g_X9_forms_28), (5246977, g_X9_forms_29), (5246978, g_X9_forms_30), (5246979, g_X9_forms_31), (5246980, g_X9_forms_32), (5246981, g_X9_forms_33), (5249025, g_X9_forms_34), (5249026, g_X9_forms_35), (5249027, g_X9_forms_36), (5249028, g_X9_forms_37), (5249029, g_X9_forms_38), (5251073, g_X9_forms_39), (5251074, g_X9_forms_40), (5251075, g_X9_forms_41), (5251076, g_X9_forms_42), (5251077, g_X9_forms_43), (6294529, g_X9_forms_44), (6294530, g_X9_forms_45), (6294531, g_X9_forms_46), (6294532, g_X9_forms_47), (6294533, g_X9_forms_48), (6294534, g_X9_forms_49), (6294535, g_X9_forms_50), (6295553, g_X9_forms_51), (6295554, g_X9_forms_52), (6295555, g_X9_forms_53), (6295556, g_X9_forms_54), (6295557, g_X9_forms_55), (6295558, g_X9_forms_56), (6295559, g_X9_forms_57), (6297601, g_X9_forms_58), (6297602, g_X9_forms_59), (6297603, g_X9_forms_60), (6297604, g_X9_forms_61), (6297605, g_X9_forms_62), (6297606, g_X9_forms_63), (6297607, g_X9_forms_64), (6299649, g_X9_forms_65), (6299650, g_X9_forms_66), (6299651, g_X9_forms_67), (6299652, g_X9_forms_68), (6299653, g_X9_forms_69), (6299654, g_X9_forms_70), (6299655, g_X9_forms_71), (7343105, g_X9_forms_72), (7343106, g_X9_forms_73), (7343107, g_X9_forms_74), (7343108, g_X9_forms_75), (7343109, g_X9_forms_76), (7343110, g_X9_forms_77), (7343111, g_X9_forms_78), (7343112, g_X9_forms_79), (7343113, g_X9_forms_80), (7343114, g_X9_forms_81), (7343115, g_X9_forms_82), (7344129, g_X9_forms_83), (7344130, g_X9_forms_84), (7344131, g_X9_forms_85), (7344132, g_X9_forms_86), (7344133, g_X9_forms_87), (7344134, g_X9_forms_88), (7344135, g_X9_forms_89), (7344136, g_X9_forms_90), (7344137, g_X9_forms_91), (7344138, g_X9_forms_92), (7344139, g_X9_forms_93), (7346177, g_X9_forms_94), (7346178, g_X9_forms_95), (7346179, g_X9_forms_96), (7346180, g_X9_forms_97), (7346181, g_X9_forms_98), (7346182, g_X9_forms_99), (7346183, g_X9_forms_100), (7346184, g_X9_forms_101), (7346185, g_X9_forms_102), (7346186, g_X9_forms_103), (7346187, g_X9_forms_104), (7348225, g_X9_forms_105), (7348226, g_X9_forms_106), (7348227, g_X9_forms_107), (7348228, g_X9_forms_108), (7348229, g_X9_forms_109), (7348230, g_X9_forms_110), (7348231, g_X9_forms_111), (7348232, g_X9_forms_112), (7348233, g_X9_forms_113), (7348234, g_X9_forms_114), (7348235, g_X9_forms_115)]
set_option maxRecDepth 100000 in
theorem mgs_X9_forms {d : Nat} : zMet (d := d) X_X9_forms yX9_forms 19 gs_X9_forms := zMet_wt (hsK_ok (hsK_ok hsF_ok hsF_ok) hsL_ok) (zwt_c mg_X9_forms_0 (zwt_c mg_X9_forms_1 (zwt_c mg_X9_forms_2 (zwt_c mg_X9_forms_3 (zwt_c mg_X9_forms_4 (zwt_c mg_X9_forms_5 (zwt_c mg_X9_forms_6 (zwt_c mg_X9_forms_7 (zwt_c mg_X9_forms_8 (zwt_c mg_X9_forms_9 (zwt_c mg_X9_forms_10 (zwt_c mg_X9_forms_11 (zwt_c mg_X9_forms_12 (zwt_c mg_X9_forms_13 (zwt_c mg_X9_forms_14 (zwt_c mg_X9_forms_15 (zwt_c mg_X9_forms_16 (zwt_c mg_X9_forms_17 (zwt_c mg_X9_forms_18 (zwt_c mg_X9_forms_19 (zwt_c mg_X9_forms_20 (zwt_c mg_X9_forms_21 (zwt_c mg_X9_forms_22 (zwt_c mg_X9_forms_23 (zwt_c mg_X9_forms_24 (zwt_c mg_X9_forms_25 (zwt_c mg_X9_forms_26 (zwt_c mg_X9_forms_27 (zwt_c mg_X9_forms_28 (zwt_c mg_X9_forms_29 (zwt_c mg_X9_forms_30 (zwt_c mg_X9_forms_31 (zwt_c mg_X9_forms_32 (zwt_c mg_X9_forms_33 (zwt_c mg_X9_forms_34 (zwt_c mg_X9_forms_35 (zwt_c mg_X9_forms_36 (zwt_c mg_X9_forms_37 (zwt_c mg_X9_forms_38 (zwt_c mg_X9_forms_39 (zwt_c mg_X9_forms_40 (zwt_c mg_X9_forms_41 (zwt_c mg_X9_forms_42 (zwt_c mg_X9_forms_43 (zwt_c mg_X9_forms_44 (zwt_c mg_X9_forms_45 (zwt_c mg_X9_forms_46 (zwt_c mg_X9_forms_47 (zwt_c mg_X9_forms_48 (zwt_c mg_X9_forms_49 (zwt_c mg_X9_forms_50 (zwt_c mg_X9_forms_51 (zwt_c mg_X9_forms_52 (zwt_c mg_X9_forms_53 (zwt_c mg_X9_forms_54 (zwt_c mg_X9_forms_55 (zwt_c mg_X9_forms_56 (zwt_c mg_X9_forms_57 (zwt_c mg_X9_forms_58 (zwt_c mg_X9_forms_59 (zwt_c mg_X9_forms_60 (zwt_c mg_X9_forms_61 (zwt_c mg_X9_forms_62 (zwt_c mg_X9_forms_63 (zwt_c mg_X9_forms_64 (zwt_c mg_X9_forms_65 (zwt_c mg_X9_forms_66 (zwt_c mg_X9_forms_67 (zwt_c mg_X9_forms_68 (zwt_c mg_X9_forms_69 (zwt_c mg_X9_forms_70 (zwt_c mg_X9_forms_71 (zwt_c mg_X9_forms_72 (zwt_c mg_X9_forms_73 (zwt_c mg_X9_forms_74 (zwt_c mg_X9_forms_75 (zwt_c mg_X9_forms_76 (zwt_c mg_X9_forms_77 (zwt_c mg_X9_forms_78 (zwt_c mg_X9_forms_79 (zwt_c mg_X9_forms_80 (zwt_c mg_X9_forms_81 (zwt_c mg_X9_forms_82 (zwt_c mg_X9_forms_83 (zwt_c mg_X9_forms_84 (zwt_c mg_X9_forms_85 (zwt_c mg_X9_forms_86 (zwt_c mg_X9_forms_87 (zwt_c mg_X9_forms_88 (zwt_c mg_X9_forms_89 (zwt_c mg_X9_forms_90 (zwt_c mg_X9_forms_91 (zwt_c mg_X9_forms_92 (zwt_c mg_X9_forms_93 (zwt_c mg_X9_forms_94 (zwt_c mg_X9_forms_95 (zwt_c mg_X9_forms_96 (zwt_c mg_X9_forms_97 (zwt_c mg_X9_forms_98 (zwt_c mg_X9_forms_99 (zwt_c mg_X9_forms_100 (zwt_c mg_X9_forms_101 (zwt_c mg_X9_forms_102 (zwt_c mg_X9_forms_103 (zwt_c mg_X9_forms_104 (zwt_c mg_X9_forms_105 (zwt_c mg_X9_forms_106 (zwt_c mg_X9_forms_107 (zwt_c mg_X9_forms_108 (zwt_c mg_X9_forms_109 (zwt_c mg_X9_forms_110 (zwt_c mg_X9_forms_111 (zwt_c mg_X9_forms_112 (zwt_c mg_X9_forms_113 (zwt_c mg_X9_forms_114 (zwt_c mg_X9_forms_115 zwt_n))))))))))))))))))))))))))))))))))))))))))))))))))))))))))))))))))))))))))))))))))))))))))))))))))))))))))))))))))))
end
section
/-! the reference by summaries, by program -/
noncomputable def cX9_fixeda_114 {d : Nat} (P : zP d) (r32 : zK d) : zK d := (xincR 4 1 r32)
set_option maxRecDepth 100000 in
set_option maxHeartbeats 4000000 in
theorem scX9_fixeda_114 {d : Nat} [zGh] (P : zP d) (r32 : zK d) (hr32 : zSimJ 3 X_X9_fixed 18 P 32 r32) : zSim X_X9_fixed 18 P 114 (cX9_fixeda_114 P r32) := by
  unfold cX9_fixeda_114
  refine sm_iincR (pc := 114) (n := 4) dX9_fixed_114 zc_i_1 ?_
  refine sm_goto (pc := 117) (tgt := 32) dX9_fixed_117 (by decide) ?_
  exact hr32.use
noncomputable def cX9_fixeda_77 {d : Nat} (P : zP d) (r32 : zK d) : zK d := (xbin zaddR (xild 4 (xbin zaddR (xalQ 0 (xbin zsubR (xist 5 (xald 0 (xgfR 25 34 (xpI 16 (xild 3 (xbin zmulR (xild 4 (xbin zaddR (xild 5 (xald 0 (xgfI 25 1 (xbinN zremR (xald 0 (xgfI 25 1 (xbin zaddR (xald 0 (xgfI 25 1 (xbinN zremR (xasQ 0 (fun v => v) (cX9_fixeda_114 P r32)))))))))))))))))))))))))
set_option maxRecDepth 100000 in
set_option maxHeartbeats 4000000 in
theorem scX9_fixeda_77 {d : Nat} [zGh] (P : zP d) (r32 : zK d) (hr32 : zSimJ 3 X_X9_fixed 18 P 32 r32) : zSim X_X9_fixed 18 P 77 (cX9_fixeda_77 P r32) := by
  unfold cX9_fixeda_77
  refine sm_iaddR (pc := 77) dX9_fixed_77 ?_
  refine sm_iload (pc := 78) (n := 4) dX9_fixed_78 ?_
  refine sm_iaddR (pc := 80) dX9_fixed_80 ?_
  refine sm_ialoadQ (pc := 81) dX9_fixed_81 ?_
  refine sm_isubR (pc := 82) dX9_fixed_82 ?_
  refine sm_istore (pc := 83) (n := 5) dX9_fixed_83 ?_
  refine sm_aload_n (pc := 85) (n := 0) dX9_fixed_85 rfl ?_
  refine gf_X9_87 (pc := 86) rfl dX9_fixed_86 ?_
  refine sm_bipush (pc := 89) dX9_fixed_89 zc_b_16 ?_
  refine sm_iload_n (pc := 91) (n := 3) dX9_fixed_91 rfl ?_
  refine sm_imulR (pc := 92) dX9_fixed_92 ?_
  refine sm_iload (pc := 93) (n := 4) dX9_fixed_93 ?_
  refine sm_iaddR (pc := 95) dX9_fixed_95 ?_
  refine sm_iload (pc := 96) (n := 5) dX9_fixed_96 ?_
  refine sm_aload_n (pc := 98) (n := 0) dX9_fixed_98 rfl ?_
  refine gf_X9_184 (pc := 99) rfl dX9_fixed_99 ?_
  refine sm_iremR (pc := 102) dX9_fixed_102 ?_
  refine sm_aload_n (pc := 103) (n := 0) dX9_fixed_103 rfl ?_
  refine gf_X9_184 (pc := 104) rfl dX9_fixed_104 ?_
  refine sm_iaddR (pc := 107) dX9_fixed_107 ?_
  refine sm_aload_n (pc := 108) (n := 0) dX9_fixed_108 rfl ?_
  refine gf_X9_184 (pc := 109) rfl dX9_fixed_109 ?_
  refine sm_iremR (pc := 112) dX9_fixed_112 ?_
  refine sm_iastoreQ (pc := 113) dX9_fixed_113 ?_
  exact scX9_fixeda_114 P r32 hr32
noncomputable def lX9_fixeda_32 {d : Nat} (P : zP d) (r16 : zK d) (r32 : zK d) : zK d := (xild 4 (xald 0 (xgfR 25 21 (xald 0 (xgfI 25 25 (xalQ 0 (xcmpS tgeR rlGe rhS rlS rhLt (xincR 3 1 r16) (xald 0 (xald 0 (xgfR 25 29 (xild 3 (xald 0 (xgfR 25 30 (xild 4 (xcV 25 5 0 0 (zstr f_X9_forma) (xald 0 (xgfR 25 35 (xpI 256 (xald 0 (xgfI 25 25 (xbin zmulR (xpI 16 (xild 3 (xbin zmulR (cX9_fixeda_77 P r32)))))))))))))))))))))))))
set_option maxRecDepth 100000 in
set_option maxHeartbeats 4000000 in
theorem slX9_fixeda_32 {d : Nat} [zGh] (P : zP d) (r16 : zK d) (r32 : zK d) (hr16 : zSimJ 2 X_X9_fixed 18 P 16 r16) (hr32 : zSimJ 3 X_X9_fixed 18 P 32 r32) : zSim X_X9_fixed 18 P 32 (lX9_fixeda_32 P r16 r32) := by
  unfold lX9_fixeda_32
  refine sm_iload (pc := 32) (n := 4) dX9_fixed_32 ?_
  refine sm_aload_n (pc := 34) (n := 0) dX9_fixed_34 rfl ?_
  refine gf_X9_56 (pc := 35) rfl dX9_fixed_35 ?_
  refine sm_aload_n (pc := 38) (n := 0) dX9_fixed_38 rfl ?_
  refine gf_X9_205 (pc := 39) rfl dX9_fixed_39 ?_
  refine sm_ialoadQ (pc := 42) dX9_fixed_42 ?_
  refine sm_icmpS_ge (pc := 43) (tgt := 120) dX9_fixed_43 (by decide) ?_ ?_
  · skip
    refine sm_iincR (pc := 120) (n := 3) dX9_fixed_120 zc_i_1 ?_
    refine sm_goto (pc := 123) (tgt := 16) dX9_fixed_123 (by decide) ?_
    exact hr16.use
  · skip
    refine sm_aload_n (pc := 46) (n := 0) dX9_fixed_46 rfl ?_
    refine sm_aload_n (pc := 47) (n := 0) dX9_fixed_47 rfl ?_
    refine gf_X9_72 (pc := 48) rfl dX9_fixed_48 ?_
    refine sm_iload_n (pc := 51) (n := 3) dX9_fixed_51 rfl ?_
    refine sm_aload_n (pc := 52) (n := 0) dX9_fixed_52 rfl ?_
    refine gf_X9_75 (pc := 53) rfl dX9_fixed_53 ?_
    refine sm_iload (pc := 56) (n := 4) dX9_fixed_56 ?_
    refine sm_cV (pc := 58) (ci := 9) (n := 5) (mc := 0) (ms := 0) rfl (zMet_str m_X9_forma) (cr_X9_245 (X := X_X9_fixed) (fr := 18) (frc := 1) (pc := 58) (mc := 0) (ms := 0) rfl (by decide) dX9_fixed_58) ?_
    refine sm_aload_n (pc := 61) (n := 0) dX9_fixed_61 rfl ?_
    refine gf_X9_90 (pc := 62) rfl dX9_fixed_62 ?_
    refine sm_sipush (pc := 65) dX9_fixed_65 zc_s_256 ?_
    refine sm_aload_n (pc := 68) (n := 0) dX9_fixed_68 rfl ?_
    refine gf_X9_205 (pc := 69) rfl dX9_fixed_69 ?_
    refine sm_imulR (pc := 72) dX9_fixed_72 ?_
    refine sm_bipush (pc := 73) dX9_fixed_73 zc_b_16 ?_
    refine sm_iload_n (pc := 75) (n := 3) dX9_fixed_75 rfl ?_
    refine sm_imulR (pc := 76) dX9_fixed_76 ?_
    exact scX9_fixeda_77 P r32 hr32
noncomputable def lX9_fixeda_16 {d : Nat} (P : zP d) (r16 : zK d) : zK d := (xild 3 (xald 0 (xgfR 25 21 (xald 0 (xgfI 25 25 (xalQ 0 (xcmpS tgeR rlGe rhS rlS rhLt (xald 0 (xgfR 25 36 (xald 0 (xgfI 25 25 (xalQ 0 (xald 0 (xald 0 (xgfR 25 21 (xald 0 (xgfI 25 25 (xalQ 0 (xcV 25 2 0 0 (zstr gs_X9_rankOf) (xbin zsubR (xiret P)))))))))))))) (xpI 0 (xist 4 (xlp 4 2 (hsC 17) wkE (fun r32 => (lX9_fixeda_32 P r16 r32))))))))))))
set_option maxRecDepth 100000 in
set_option maxHeartbeats 4000000 in
theorem slX9_fixeda_16 {d : Nat} [zGh] (P : zP d) (r16 : zK d) (hr16 : zSimJ 2 X_X9_fixed 18 P 16 r16) : zSim X_X9_fixed 18 P 16 (lX9_fixeda_16 P r16) := by
  unfold lX9_fixeda_16
  refine sm_iload_n (pc := 16) (n := 3) dX9_fixed_16 rfl ?_
  refine sm_aload_n (pc := 17) (n := 0) dX9_fixed_17 rfl ?_
  refine gf_X9_56 (pc := 18) rfl dX9_fixed_18 ?_
  refine sm_aload_n (pc := 21) (n := 0) dX9_fixed_21 rfl ?_
  refine gf_X9_205 (pc := 22) rfl dX9_fixed_22 ?_
  refine sm_ialoadQ (pc := 25) dX9_fixed_25 ?_
  refine sm_icmpS_ge (pc := 26) (tgt := 126) dX9_fixed_26 (by decide) ?_ ?_
  · skip
    refine sm_aload_n (pc := 126) (n := 0) dX9_fixed_126 rfl ?_
    refine gf_X9_93 (pc := 127) rfl dX9_fixed_127 ?_
    refine sm_aload_n (pc := 130) (n := 0) dX9_fixed_130 rfl ?_
    refine gf_X9_205 (pc := 131) rfl dX9_fixed_131 ?_
    refine sm_ialoadQ (pc := 134) dX9_fixed_134 ?_
    refine sm_aload_n (pc := 135) (n := 0) dX9_fixed_135 rfl ?_
    refine sm_aload_n (pc := 136) (n := 0) dX9_fixed_136 rfl ?_
    refine gf_X9_56 (pc := 137) rfl dX9_fixed_137 ?_
    refine sm_aload_n (pc := 140) (n := 0) dX9_fixed_140 rfl ?_
    refine gf_X9_205 (pc := 141) rfl dX9_fixed_141 ?_
    refine sm_ialoadQ (pc := 144) dX9_fixed_144 ?_
    refine sm_cV (pc := 145) (ci := 9) (n := 2) (mc := 0) (ms := 0) rfl (zMet_str mgs_X9_rankOf) (cr_X9_249 (X := X_X9_fixed) (fr := 18) (frc := 2) (pc := 145) (mc := 0) (ms := 0) rfl (by decide) dX9_fixed_145) ?_
    refine sm_isubR (pc := 148) dX9_fixed_148 ?_
    exact sm_ireturn (pc := 149) dX9_fixed_149 rfl
  · skip
    refine sm_iconst (pc := 29) dX9_fixed_29 zc_i_0 ?_
    refine sm_istore (pc := 30) (n := 4) dX9_fixed_30 ?_
    exact sm_lp (i := 4) (j := 2) (by decide) (by decide) hsC_ok wkE_ok (fun G1 hG1 r32 hr32 => @slX9_fixeda_32 d G1 P r16 r32 (hr16.mv hG1 (by decide)) hr32)
noncomputable def b_X9_fixeda {d : Nat} (P : zP d) : zK d := (xald 0 (xild 1 (xild 2 (xcV 25 3 0 0 (zstr gs_X9_moves) (xald 0 (xald 0 (xgfR 25 30 (xcV 25 2 0 0 (zstr gs_X9_sumsOf) (xpI 0 (xist 3 (xlp 3 1 (hsC 17) (wkA 0 [34] 4294967296 wkE) (fun r16 => (lX9_fixeda_16 P r16)))))))))))))
set_option maxRecDepth 100000 in
set_option maxHeartbeats 4000000 in
theorem s_X9_fixeda {d : Nat} [zGh] (P : zP d) : zSim X_X9_fixed 18 P 0 (b_X9_fixeda P) := by
  unfold b_X9_fixeda
  refine sm_aload_n (pc := 0) (n := 0) dX9_fixed_0 rfl ?_
  refine sm_iload_n (pc := 1) (n := 1) dX9_fixed_1 rfl ?_
  refine sm_iload_n (pc := 2) (n := 2) dX9_fixed_2 rfl ?_
  refine sm_cV (pc := 3) (ci := 9) (n := 3) (mc := 0) (ms := 0) rfl (zMet_str mgs_X9_moves) (cr_X9_252 (X := X_X9_fixed) (fr := 18) (frc := 2) (pc := 3) (mc := 0) (ms := 0) rfl (by decide) dX9_fixed_3) ?_
  refine sm_aload_n (pc := 6) (n := 0) dX9_fixed_6 rfl ?_
  refine sm_aload_n (pc := 7) (n := 0) dX9_fixed_7 rfl ?_
  refine gf_X9_75 (pc := 8) rfl dX9_fixed_8 ?_
  refine sm_cV (pc := 11) (ci := 9) (n := 2) (mc := 0) (ms := 0) rfl (zMet_str mgs_X9_sumsOf) (cr_X9_234 (X := X_X9_fixed) (fr := 18) (frc := 17) (pc := 11) (mc := 0) (ms := 0) rfl (by decide) dX9_fixed_11) ?_
  refine sm_iconst (pc := 14) dX9_fixed_14 zc_i_0 ?_
  refine sm_istore_n (pc := 15) (n := 3) dX9_fixed_15 rfl ?_
  exact sm_lp (i := 3) (j := 1) (by decide) (by decide) hsC_ok (wkA_ok wkE_ok) (fun G1 hG1 r16 hr16 => @slX9_fixeda_16 d G1 P r16 hr16)
noncomputable def f_X9_fixeda {d : Nat} : List zV → zH d → zP d → Bool := zfn 6 b_X9_fixeda
theorem m_X9_fixeda {d : Nat} : zMet (d := d) X_X9_fixed yX9_fixed 18 f_X9_fixeda := zmet_mk (X := X_X9_fixed) (by decide) rfl rfl s_X9_fixeda
end
