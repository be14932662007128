/-! the reference by summaries, by program -/
noncomputable def bX9_modularOfa_88 {d : Nat} (P : zP d) (r4 : zK d) : zK d := (xincR 3 1 r4)
set_option maxRecDepth 100000 in
set_option maxHeartbeats 4000000 in
theorem sbX9_modularOfa_88 {d : Nat} [zGh] (P : zP d) (r4 : zK d) (hr4 : zSimJ 1 X_X9_modularOf 19 P 4 r4) : zSim X_X9_modularOf 19 P 88 (bX9_modularOfa_88 P r4) := by
  unfold bX9_modularOfa_88
  refine sm_iincR (pc := 88) (n := 3) dX9_modularOf_88 zc_i_1 ?_
  refine sm_goto (pc := 91) (tgt := 4) dX9_modularOf_91 (by decide) ?_
  exact hr4.use
noncomputable def bX9_modularOfa_67 {d : Nat} (P : zP d) (r34 : zK d) : zK d := (xincR 5 1 r34)
set_option maxRecDepth 100000 in
set_option maxHeartbeats 4000000 in
theorem sbX9_modularOfa_67 {d : Nat} [zGh] (P : zP d) (r34 : zK d) (hr34 : zSimJ 1 X_X9_modularOf 19 P 34 r34) : zSim X_X9_modularOf 19 P 67 (bX9_modularOfa_67 P r34) := by
  unfold bX9_modularOfa_67
  refine sm_iincR (pc := 67) (n := 5) dX9_modularOf_67 zc_i_1 ?_
  refine sm_goto (pc := 70) (tgt := 34) dX9_modularOf_70 (by decide) ?_
  exact hr34.use
noncomputable def lX9_modularOfa_34 {d : Nat} (P : zP d) (j88 : zK d) (r34 : zK d) : zK d := (xild 5 (xild 3 (xcmpS tleR rlS rhLe rlGt rhS (xild 3 (xild 5 (xbinN zremR (xjoin (bX9_modularOfa_67 P r34) (fun j67 => (xif0S teqR rlEq rhEq rlNe rhNe (xild 4 (xild 3 (xild 5 (xbinN zdivR (xcS 1 0 0 (zstr f_X9_mobius) (xald 0 (xild 1 (xild 5 (xcV 25 3 0 0 (zstr f_X9_fixeda) (xbin zmulR (xbin zaddR (xist 4 j67)))))))))))) j67)))))) (xild 2 (xild 4 (xild 3 (xcS 1 0 0 (zstr f_X9_units) (xbinN zdivR (xild 3 (xcS 1 0 0 (zstr f_X9_mobius) (xbin zmulR (xbin zaddR (xist 2 j88)))))))))))))
set_option maxRecDepth 100000 in
set_option maxHeartbeats 4000000 in
theorem slX9_modularOfa_34 {d : Nat} [zGh] (P : zP d) (j88 : zK d) (r34 : zK d) (hj88 : zSimJ 1 X_X9_modularOf 19 P 88 j88) (hr34 : zSimJ 1 X_X9_modularOf 19 P 34 r34) : zSim X_X9_modularOf 19 P 34 (lX9_modularOfa_34 P j88 r34) := by
  unfold lX9_modularOfa_34
  refine sm_iload (pc := 34) (n := 5) dX9_modularOf_34 ?_
  refine sm_iload_n (pc := 36) (n := 3) dX9_modularOf_36 rfl ?_
  refine sm_icmpS_gt (pc := 37) (tgt := 73) dX9_modularOf_37 (by decide) ?_ ?_
  · skip
    refine sm_iload_n (pc := 73) (n := 2) dX9_modularOf_73 rfl ?_
    refine sm_iload (pc := 74) (n := 4) dX9_modularOf_74 ?_
    refine sm_iload_n (pc := 76) (n := 3) dX9_modularOf_76 rfl ?_
    refine sm_cS (pc := 77) (n := 1) (mc := 0) (ms := 0) (zMet_str m_X9_units) (cr_X9_261 (X := X_X9_modularOf) (fr := 19) (frc := 1) (pc := 77) (mc := 0) (ms := 0) rfl (by decide) dX9_modularOf_77) ?_
    refine sm_idivR (pc := 80) dX9_modularOf_80 ?_
    refine sm_iload_n (pc := 81) (n := 3) dX9_modularOf_81 rfl ?_
    refine sm_cS (pc := 82) (n := 1) (mc := 0) (ms := 0) (zMet_str m_X9_mobius) (cr_X9_255 (X := X_X9_modularOf) (fr := 19) (frc := 1) (pc := 82) (mc := 0) (ms := 0) rfl (by decide) dX9_modularOf_82) ?_
    refine sm_imulR (pc := 85) dX9_modularOf_85 ?_
    refine sm_iaddR (pc := 86) dX9_modularOf_86 ?_
    refine sm_istore_n (pc := 87) (n := 2) dX9_modularOf_87 rfl ?_
    exact hj88.use
  · skip
    refine sm_iload_n (pc := 40) (n := 3) dX9_modularOf_40 rfl ?_
    refine sm_iload (pc := 41) (n := 5) dX9_modularOf_41 ?_
    refine sm_iremR (pc := 43) dX9_modularOf_43 ?_
    refine sm_joinJ (pc := 44) (pc' := 67) (j := 1) (fun G0 hG0 => @sbX9_modularOfa_67 d G0 P r34 (hr34.mv hG0 (by decide))) (fun j67 hj67 => ?_)
    refine sm_ifS_ne (pc := 44) (tgt := 67) dX9_modularOf_44 (by decide) ?_ ?_
    · skip
      exact hj67.use
    · skip
      refine sm_iload (pc := 47) (n := 4) dX9_modularOf_47 ?_
      refine sm_iload_n (pc := 49) (n := 3) dX9_modularOf_49 rfl ?_
      refine sm_iload (pc := 50) (n := 5) dX9_modularOf_50 ?_
      refine sm_idivR (pc := 52) dX9_modularOf_52 ?_
      refine sm_cS (pc := 53) (n := 1) (mc := 0) (ms := 0) (zMet_str m_X9_mobius) (cr_X9_255 (X := X_X9_modularOf) (fr := 19) (frc := 1) (pc := 53) (mc := 0) (ms := 0) rfl (by decide) dX9_modularOf_53) ?_
      refine sm_aload_n (pc := 56) (n := 0) dX9_modularOf_56 rfl ?_
      refine sm_iload_n (pc := 57) (n := 1) dX9_modularOf_57 rfl ?_
      refine sm_iload (pc := 58) (n := 5) dX9_modularOf_58 ?_
      refine sm_cV (pc := 60) (ci := 9) (n := 3) (mc := 0) (ms := 0) rfl (zMet_str m_X9_fixeda) (cr_X9_258 (X := X_X9_modularOf) (fr := 19) (frc := 18) (pc := 60) (mc := 0) (ms := 0) rfl (by decide) dX9_modularOf_60) ?_
      refine sm_imulR (pc := 63) dX9_modularOf_63 ?_
      refine sm_iaddR (pc := 64) dX9_modularOf_64 ?_
      refine sm_istore (pc := 65) (n := 4) dX9_modularOf_65 ?_
      exact hj67.use
noncomputable def lX9_modularOfa_4 {d : Nat} (P : zP d) (r4 : zK d) : zK d := (xild 3 (xald 0 (xgfR 25 6 (xild 1 (xalQ 0 (xcmpS tleR rlS rhLe rlGt rhS (xald 0 (xgfR 25 6 (xild 1 (xalQ 0 (xild 3 (xbinN zremR (xjoin (bX9_modularOfa_88 P r4) (fun j88 => (xif0S teqR rlEq rhEq rlNe rhNe (xpI 0 (xist 4 (xpI 1 (xist 5 (xloop (fun r34 => (lX9_modularOfa_34 P j88 r34)) 100000))))) j88))))))))) (xild 2 (xiret P))))))))
set_option maxRecDepth 100000 in
set_option maxHeartbeats 4000000 in
theorem slX9_modularOfa_4 {d : Nat} [zGh] (P : zP d) (r4 : zK d) (hr4 : zSimJ 1 X_X9_modularOf 19 P 4 r4) : zSim X_X9_modularOf 19 P 4 (lX9_modularOfa_4 P r4) := by
  unfold lX9_modularOfa_4
  refine sm_iload_n (pc := 4) (n := 3) dX9_modularOf_4 rfl ?_
  refine sm_aload_n (pc := 5) (n := 0) dX9_modularOf_5 rfl ?_
  refine gf_X9_19 (pc := 6) rfl dX9_modularOf_6 ?_
  refine sm_iload_n (pc := 9) (n := 1) dX9_modularOf_9 rfl ?_
  refine sm_ialoadQ (pc := 10) dX9_modularOf_10 ?_
  refine sm_icmpS_gt (pc := 11) (tgt := 94) dX9_modularOf_11 (by decide) ?_ ?_
  · skip
    refine sm_iload_n (pc := 94) (n := 2) dX9_modularOf_94 rfl ?_
    exact sm_ireturn (pc := 95) dX9_modularOf_95 rfl
  · skip
    refine sm_aload_n (pc := 14) (n := 0) dX9_modularOf_14 rfl ?_
    refine gf_X9_19 (pc := 15) rfl dX9_modularOf_15 ?_
    refine sm_iload_n (pc := 18) (n := 1) dX9_modularOf_18 rfl ?_
    refine sm_ialoadQ (pc := 19) dX9_modularOf_19 ?_
    refine sm_iload_n (pc := 20) (n := 3) dX9_modularOf_20 rfl ?_
    refine sm_iremR (pc := 21) dX9_modularOf_21 ?_
    refine sm_joinJ (pc := 22) (pc' := 88) (j := 1) (fun G0 hG0 => @sbX9_modularOfa_88 d G0 P r4 (hr4.mv hG0 (by decide))) (fun j88 hj88 => ?_)
    refine sm_ifS_eq (pc := 22) (tgt := 28) dX9_modularOf_22 (by decide) ?_ ?_
    · skip
      refine sm_iconst (pc := 28) dX9_modularOf_28 zc_i_0 ?_
      refine sm_istore (pc := 29) (n := 4) dX9_modularOf_29 ?_
      refine sm_iconst (pc := 31) dX9_modularOf_31 zc_i_1 ?_
      refine sm_istore (pc := 32) (n := 5) dX9_modularOf_32 ?_
      exact (sm_loopJ (j := 1) (fun G1 hG1 r34 hr34 => @slX9_modularOfa_34 d G1 P j88 r34 (hj88.mv hG1 (by decide)) hr34) _).use
    · skip
      refine sm_goto (pc := 25) (tgt := 88) dX9_modularOf_25 (by decide) ?_
      exact hj88.use
noncomputable def b_X9_modularOfa {d : Nat} (P : zP d) : zK d := (xpI 0 (xist 2 (xpI 1 (xist 3 (xloop (fun r4 => (lX9_modularOfa_4 P r4)) 100000)))))
set_option maxRecDepth 100000 in
set_option maxHeartbeats 4000000 in
theorem s_X9_modularOfa {d : Nat} [zGh] (P : zP d) : zSim X_X9_modularOf 19 P 0 (b_X9_modularOfa P) := by
  unfold b_X9_modularOfa
  refine sm_iconst (pc := 0) dX9_modularOf_0 zc_i_0 ?_
  refine sm_istore_n (pc := 1) (n := 2) dX9_modularOf_1 rfl ?_
  refine sm_iconst (pc := 2) dX9_modularOf_2 zc_i_1 ?_
  refine sm_istore_n (pc := 3) (n := 3) dX9_modularOf_3 rfl ?_
  exact (sm_loopJ (j := 1) (fun G1 hG1 r4 hr4 => @slX9_modularOfa_4 d G1 P r4 hr4) _).use
noncomputable def f_X9_modularOfa {d : Nat} : List zV → zH d → zP d → Bool := zfn 6 b_X9_modularOfa
theorem m_X9_modularOfa {d : Nat} : zMet (d := d) X_X9_modularOf yX9_modularOf 19 f_X9_modularOfa := zmet_mk (X := X_X9_modularOf) (by decide) rfl rfl s_X9_modularOfa

noncomputable def zk_99_zs1_99_n00_X9_modularOf_0 : zT 2 := @Prod.mk (zT 1) (zT 1) ((25, 63, bg_369), (0, 11, bg_8)) ((0, 11, bg_131), (0, 456, bg_16))
noncomputable def zk_99_zs1_99_n00_X9_modularOf_1 : zC := (0, 7, 0x100000000010000000001000000000100000000010000000001000000000100000000)
noncomputable def zk_99_zs1_99_n00_X9_modularOf_2 : zT 1 := @Prod.mk (zT 0) (zT 0) (0, 6, 0x10000000001000000000100000000010000000001000000000100000000) zk_99_zs1_99_n00_X9_modularOf_1
noncomputable def zk_99_zs1_99_n00_X9_modularOf_3 : zT 2 := @Prod.mk (zT 1) (zT 1) (zk_99_zs1_99_n00_X9_modularOf_1, (0, 66, bg_1)) zk_99_zs1_99_n00_X9_modularOf_2
noncomputable def zk_99_zs1_99_n00_X9_modularOf_4 : zT 2 := @Prod.mk (zT 1) (zT 1) ((0, 12000, zun 40 12000 4294967296), (0, 2816, zun 40 2816 4294967296)) ((0, 256, zun 40 256 4294967296), (0, 11, zun 40 11 4294967296))
noncomputable def zk_99_zs1_99_n00_X9_modularOf_5 : zT 3 := @Prod.mk (zT 2) (zT 2) (((10, 46656, 1), (11, 720, 1)), ((0, 11, bg_8), (0, 12000, zun 40 12000 4294967296))) zk_99_zs1_99_n00_X9_modularOf_4
noncomputable def h0_X9_modularOf_0 : zH 5 := (show zT 5 from (((zk_99_zs1_99_n00_X9_modularOf_0, zk_99_zs1_99_n00_X9_modularOf_3), zk_99_zs1_99_n00_X9_modularOf_5), (((((0, 11, bg_8), (0, 0, 0)), zO1), zO2), zO3)), (17, (0, 0)))
noncomputable def zk_99_zs1_99_n00_X9_modularOf_6 : zT 2 := @Prod.mk (zT 1) (zT 1) ((0, 7, 0x100000000010000000001000000000100000000010000000000000000010100000000), (0, 66, bg_1)) zk_99_zs1_99_n00_X9_modularOf_2
noncomputable def h1_X9_modularOf_0 : zH 5 := (show zT 5 from (((zk_99_zs1_99_n00_X9_modularOf_0, zk_99_zs1_99_n00_X9_modularOf_6), zk_99_zs1_99_n00_X9_modularOf_5), (((((0, 11, bg_8), (0, 0, 0)), zO1), zO2), zO3)), (17, (0, 0)))
theorem ev_X9_modularOf_0 : f_X9_modularOfa [zR 1, zI 0] h0_X9_modularOf_0 (zrk (zI 4294967296) h1_X9_modularOf_0) = true := by decide +kernel
noncomputable def g_X9_modularOf_0 {d : Nat} : List zV → zH d → zP d → Bool := zsmyM [(0, 0), (1, 21), (1, 20), (1, 22), (1, 33), (1, 3), (1, 31), (1, 32), (1, 26), (1, 27), (1, 4), (1, 29), (1, 30), (1, 35), (1, 34), (1, 36), (1, 6)] [zR 1, zI 0] h0_X9_modularOf_0 (zI 4294967296) h1_X9_modularOf_0
theorem mg_X9_modularOf_0 {d : Nat} : zMet (d := d) X_X9_modularOf yX9_modularOf 19 g_X9_modularOf_0 := zMet_smM m_X9_modularOfa ev_X9_modularOf_0
noncomputable def zk_99_zs1_99_n00_X9_modularOf_7 : zT 2 := @Prod.mk (zT 1) (zT 1) ((25, 63, bg_370), (0, 11, bg_8)) ((0, 11, bg_131), (0, 456, bg_16))
noncomputable def h0_X9_modularOf_1 : zH 5 := (show zT 5 from (((zk_99_zs1_99_n00_X9_modularOf_7, zk_99_zs1_99_n00_X9_modularOf_3), zk_99_zs1_99_n00_X9_modularOf_5), (((((0, 11, bg_8), (0, 0, 0)), zO1), zO2), zO3)), (17, (0, 0)))
noncomputable def h1_X9_modularOf_1 : zH 5 := (show zT 5 from (((zk_99_zs1_99_n00_X9_modularOf_7, zk_99_zs1_99_n00_X9_modularOf_6), zk_99_zs1_99_n00_X9_modularOf_5), (((((0, 11, bg_8), (0, 0, 0)), zO1), zO2), zO3)), (17, (0, 0)))
theorem ev_X9_modularOf_1 : f_X9_modularOfa [zR 1, zI 0] h0_X9_modularOf_1 (zrk (zI 4294967296) h1_X9_modularOf_1) = true := by decide +kernel
noncomputable def g_X9_modularOf_1 {d : Nat} : List zV → zH d → zP d → Bool := zsmyM [(0, 0), (1, 21), (1, 20), (1, 22), (1, 33), (1, 3), (1, 31), (1, 32), (1, 26), (1, 27), (1, 4), (1, 29), (1, 30), (1, 35), (1, 34), (1, 36), (1, 6)] [zR 1, zI 0] h0_X9_modularOf_1 (zI 4294967296) h1_X9_modularOf_1
theorem mg_X9_modularOf_1 {d : Nat} : zMet (d := d) X_X9_modularOf yX9_modularOf 19 g_X9_modularOf_1 := zMet_smM m_X9_modularOfa ev_X9_modularOf_1
noncomputable def zk_99_zs1_99_n00_X9_modularOf_8 : zT 2 := @Prod.mk (zT 1) (zT 1) ((25, 63, bg_371), (0, 11, bg_8)) ((0, 11, bg_131), (0, 456, bg_16))
noncomputable def h0_X9_modularOf_2 : zH 5 := (show zT 5 from (((zk_99_zs1_99_n00_X9_modularOf_8, zk_99_zs1_99_n00_X9_modularOf_3), zk_99_zs1_99_n00_X9_modularOf_5), (((((0, 11, bg_8), (0, 0, 0)), zO1), zO2), zO3)), (17, (0, 0)))
noncomputable def h1_X9_modularOf_2 : zH 5 := (show zT 5 from (((zk_99_zs1_99_n00_X9_modularOf_8, zk_99_zs1_99_n00_X9_modularOf_6), zk_99_zs1_99_n00_X9_modularOf_5), (((((0, 11, bg_8), (0, 0, 0)), zO1), zO2), zO3)), (17, (0, 0)))
theorem ev_X9_modularOf_2 : f_X9_modularOfa [zR 1, zI 0] h0_X9_modularOf_2 (zrk (zI 4294967296) h1_X9_modularOf_2) = true := by decide +kernel
noncomputable def g_X9_modularOf_2 {d : Nat} : List zV → zH d → zP d → Bool := zsmyM [(0, 0), (1, 21), (1, 20), (1, 22), (1, 33), (1, 3), (1, 31), (1, 32), (1, 26), (1, 27), (1, 4), (1, 29), (1, 30), (1, 35), (1, 34), (1, 36), (1, 6)] [zR 1, zI 0] h0_X9_modularOf_2 (zI 4294967296) h1_X9_modularOf_2
theorem mg_X9_modularOf_2 {d : Nat} : zMet (d := d) X_X9_modularOf yX9_modularOf 19 g_X9_modularOf_2 := zMet_smM m_X9_modularOfa ev_X9_modularOf_2
noncomputable def zk_99_zs1_99_n00_X9_modularOf_9 : zT 2 := @Prod.mk (zT 1) (zT 1) ((25, 63, bg_372), (0, 11, bg_8)) ((0, 11, bg_131), (0, 456, bg_16))
noncomputable def h0_X9_modularOf_3 : zH 5 := (show zT 5 from (((zk_99_zs1_99_n00_X9_modularOf_9, zk_99_zs1_99_n00_X9_modularOf_3), zk_99_zs1_99_n00_X9_modularOf_5), (((((0, 11, bg_8), (0, 0, 0)), zO1), zO2), zO3)), (17, (0, 0)))
noncomputable def h1_X9_modularOf_3 : zH 5 := (show zT 5 from (((zk_99_zs1_99_n00_X9_modularOf_9, zk_99_zs1_99_n00_X9_modularOf_6), zk_99_zs1_99_n00_X9_modularOf_5), (((((0, 11, bg_8), (0, 0, 0)), zO1), zO2), zO3)), (17, (0, 0)))
theorem ev_X9_modularOf_3 : f_X9_modularOfa [zR 1, zI 0] h0_X9_modularOf_3 (zrk (zI 4294967296) h1_X9_modularOf_3) = true := by decide +kernel
noncomputable def g_X9_modularOf_3 {d : Nat} : List zV → zH d → zP d → Bool := zsmyM [(0, 0), (1, 21), (1, 20), (1, 22), (1, 33), (1, 3), (1, 31), (1, 32), (1, 26), (1, 27), (1, 4), (1, 29), (1, 30), (1, 35), (1, 34), (1, 36), (1, 6)] [zR 1, zI 0] h0_X9_modularOf_3 (zI 4294967296) h1_X9_modularOf_3
theorem mg_X9_modularOf_3 {d : Nat} : zMet (d := d) X_X9_modularOf yX9_modularOf 19 g_X9_modularOf_3 := zMet_smM m_X9_modularOfa ev_X9_modularOf_3
noncomputable def zk_99_zs1_99_n00_X9_modularOf_10 : zT 2 := @Prod.mk (zT 1) (zT 1) ((25, 63, bg_373), (0, 11, bg_8)) ((0, 11, bg_131), (0, 456, bg_19))
noncomputable def zk_99_zs1_99_n00_X9_modularOf_11 : zT 2 := @Prod.mk (zT 1) (zT 1) (zk_99_zs1_99_n00_X9_modularOf_1, (0, 66, bg_2)) zk_99_zs1_99_n00_X9_modularOf_2
noncomputable def zk_99_zs1_99_n00_X9_modularOf_12 : zT 3 := @Prod.mk (zT 2) (zT 2) (((10, 46656, 2), (11, 720, 2)), ((0, 11, bg_9), (0, 12000, zun 40 12000 4294967296))) zk_99_zs1_99_n00_X9_modularOf_4
noncomputable def h0_X9_modularOf_4 : zH 5 := (show zT 5 from (((zk_99_zs1_99_n00_X9_modularOf_10, zk_99_zs1_99_n00_X9_modularOf_11), zk_99_zs1_99_n00_X9_modularOf_12), (((((0, 11, bg_374), (0, 0, 0)), zO1), zO2), zO3)), (17, (0, 0)))
noncomputable def zk_99_zs1_99_n00_X9_modularOf_13 : zT 2 := @Prod.mk (zT 1) (zT 1) ((0, 7, 0x100000000010000000001000000000100000000000000000200000000010100000000), (0, 66, bg_2)) zk_99_zs1_99_n00_X9_modularOf_2
noncomputable def h1_X9_modularOf_4 : zH 5 := (show zT 5 from (((zk_99_zs1_99_n00_X9_modularOf_10, zk_99_zs1_99_n00_X9_modularOf_13), zk_99_zs1_99_n00_X9_modularOf_12), (((((0, 11, bg_374), (0, 0, 0)), zO1), zO2), zO3)), (17, (0, 0)))
theorem ev_X9_modularOf_4 : f_X9_modularOfa [zR 1, zI 1] h0_X9_modularOf_4 (zrk (zI 4294967296) h1_X9_modularOf_4) = true := by decide +kernel
noncomputable def g_X9_modularOf_4 {d : Nat} : List zV → zH d → zP d → Bool := zsmyM [(0, 0), (1, 21), (1, 20), (1, 22), (1, 33), (1, 3), (1, 31), (1, 32), (1, 26), (1, 27), (1, 4), (1, 29), (1, 30), (1, 35), (1, 34), (1, 36), (1, 6)] [zR 1, zI 1] h0_X9_modularOf_4 (zI 4294967296) h1_X9_modularOf_4
theorem mg_X9_modularOf_4 {d : Nat} : zMet (d := d) X_X9_modularOf yX9_modularOf 19 g_X9_modularOf_4 := zMet_smM m_X9_modularOfa ev_X9_modularOf_4
noncomputable def zk_99_zs1_99_n00_X9_modularOf_14 : zT 2 := @Prod.mk (zT 1) (zT 1) ((25, 63, bg_375), (0, 11, bg_8)) ((0, 11, bg_131), (0, 456, bg_19))
noncomputable def h0_X9_modularOf_5 : zH 5 := (show zT 5 from (((zk_99_zs1_99_n00_X9_modularOf_14, zk_99_zs1_99_n00_X9_modularOf_11), zk_99_zs1_99_n00_X9_modularOf_12), (((((0, 11, bg_374), (0, 0, 0)), zO1), zO2), zO3)), (17, (0, 0)))
noncomputable def h1_X9_modularOf_5 : zH 5 := (show zT 5 from (((zk_99_zs1_99_n00_X9_modularOf_14, zk_99_zs1_99_n00_X9_modularOf_13), zk_99_zs1_99_n00_X9_modularOf_12), (((((0, 11, bg_374), (0, 0, 0)), zO1), zO2), zO3)), (17, (0, 0)))
theorem ev_X9_modularOf_5 : f_X9_modularOfa [zR 1, zI 0] h0_X9_modularOf_5 (zrk (zI 4294967296) h1_X9_modularOf_5) = true := by decide +kernel
noncomputable def g_X9_modularOf_5 {d : Nat} : List zV → zH d → zP d → Bool := zsmyM [(0, 0), (1, 21), (1, 20), (1, 22), (1, 33), (1, 3), (1, 31), (1, 32), (1, 26), (1, 27), (1, 4), (1, 29), (1, 30), (1, 35), (1, 34), (1, 36), (1, 6)] [zR 1, zI 0] h0_X9_modularOf_5 (zI 4294967296) h1_X9_modularOf_5
theorem mg_X9_modularOf_5 {d : Nat} : zMet (d := d) X_X9_modularOf yX9_modularOf 19 g_X9_modularOf_5 := zMet_smM m_X9_modularOfa ev_X9_modularOf_5
noncomputable def h0_X9_modularOf_6 : zH 5 := (show zT 5 from (((zk_99_zs1_99_n00_X9_modularOf_14, zk_99_zs1_99_n00_X9_modularOf_11), zk_99_zs1_99_n00_X9_modularOf_12), (((((0, 11, bg_374), (0, 0, 0)), zO1), zO2), zO3)), (17, (0, 0)))
noncomputable def h1_X9_modularOf_6 : zH 5 := (show zT 5 from (((zk_99_zs1_99_n00_X9_modularOf_14, zk_99_zs1_99_n00_X9_modularOf_13), zk_99_zs1_99_n00_X9_modularOf_12), (((((0, 11, bg_374), (0, 0, 0)), zO1), zO2), zO3)), (17, (0, 0)))
theorem ev_X9_modularOf_6 : f_X9_modularOfa [zR 1, zI 1] h0_X9_modularOf_6 (zrk (zI 4294967296) h1_X9_modularOf_6) = true := by decide +kernel
noncomputable def g_X9_modularOf_6 {d : Nat} : List zV → zH d → zP d → Bool := zsmyM [(0, 0), (1, 21), (1, 20), (1, 22), (1, 33), (1, 3), (1, 31), (1, 32), (1, 26), (1, 27), (1, 4), (1, 29), (1, 30), (1, 35), (1, 34), (1, 36), (1, 6)] [zR 1, zI 1] h0_X9_modularOf_6 (zI 4294967296) h1_X9_modularOf_6
theorem mg_X9_modularOf_6 {d : Nat} : zMet (d := d) X_X9_modularOf yX9_modularOf 19 g_X9_modularOf_6 := zMet_smM m_X9_modularOfa ev_X9_modularOf_6
noncomputable def zk_99_zs1_99_n00_X9_modularOf_15 : zT 2 := @Prod.mk (zT 1) (zT 1) ((25, 63, bg_376), (0, 11, bg_134)) ((0, 11, bg_135), (0, 456, bg_22))
noncomputable def zk_99_zs1_99_n00_X9_modularOf_16 : zT 3 := @Prod.mk (zT 2) (zT 2) (((10, 46656, 9), (11, 720, 9)), ((0, 11, bg_9), (0, 12000, zun 40 12000 4294967296))) zk_99_zs1_99_n00_X9_modularOf_4
noncomputable def h0_X9_modularOf_7 : zH 5 := (show zT 5 from (((zk_99_zs1_99_n00_X9_modularOf_15, zk_99_zs1_99_n00_X9_modularOf_11), zk_99_zs1_99_n00_X9_modularOf_16), (((((0, 11, bg_374), (0, 0, 0)), zO1), zO2), zO3)), (17, (0, 0)))
noncomputable def h1_X9_modularOf_7 : zH 5 := (show zT 5 from (((zk_99_zs1_99_n00_X9_modularOf_15, zk_99_zs1_99_n00_X9_modularOf_13), zk_99_zs1_99_n00_X9_modularOf_16), (((((0, 11, bg_374), (0, 0, 0)), zO1), zO2), zO3)), (17, (0, 0)))
theorem ev_X9_modularOf_7 : f_X9_modularOfa [zR 1, zI 0] h0_X9_modularOf_7 (zrk (zI 4294967296) h1_X9_modularOf_7) = true := by decide +kernel
noncomputable def g_X9_modularOf_7 {d : Nat} : List zV → zH d → zP d → Bool := zsmyM [(0, 0), (1, 21), (1, 20), (1, 22), (1, 33), (1, 3), (1, 31), (1, 32), (1, 26), (1, 27), (1, 4), (1, 29), (1, 30), (1, 35), (1, 34), (1, 36), (1, 6)] [zR 1, zI 0] h0_X9_modularOf_7 (zI 4294967296) h1_X9_modularOf_7
theorem mg_X9_modularOf_7 {d : Nat} : zMet (d := d) X_X9_modularOf yX9_modularOf 19 g_X9_modularOf_7 := zMet_smM m_X9_modularOfa ev_X9_modularOf_7
noncomputable def h0_X9_modularOf_8 : zH 5 := (show zT 5 from (((zk_99_zs1_99_n00_X9_modularOf_15, zk_99_zs1_99_n00_X9_modularOf_11), zk_99_zs1_99_n00_X9_modularOf_16), (((((0, 11, bg_374), (0, 0, 0)), zO1), zO2), zO3)), (17, (0, 0)))
noncomputable def h1_X9_modularOf_8 : zH 5 := (show zT 5 from (((zk_99_zs1_99_n00_X9_modularOf_15, zk_99_zs1_99_n00_X9_modularOf_13), zk_99_zs1_99_n00_X9_modularOf_16), (((((0, 11, bg_374), (0, 0, 0)), zO1), zO2), zO3)), (17, (0, 0)))
theorem ev_X9_modularOf_8 : f_X9_modularOfa [zR 1, zI 1] h0_X9_modularOf_8 (zrk (zI 4294967296) h1_X9_modularOf_8) = true := by decide +kernel
noncomputable def g_X9_modularOf_8 {d : Nat} : List zV → zH d → zP d → Bool := zsmyM [(0, 0), (1, 21), (1, 20), (1, 22), (1, 33), (1, 3), (1, 31), (1, 32), (1, 26), (1, 27), (1, 4), (1, 29), (1, 30), (1, 35), (1, 34), (1, 36), (1, 6)] [zR 1, zI 1] h0_X9_modularOf_8 (zI 4294967296) h1_X9_modularOf_8
theorem mg_X9_modularOf_8 {d : Nat} : zMet (d := d) X_X9_modularOf yX9_modularOf 19 g_X9_modularOf_8 := zMet_smM m_X9_modularOfa ev_X9_modularOf_8
noncomputable def zk_99_zs1_99_n00_X9_modularOf_17 : zT 2 := @Prod.mk (zT 1) (zT 1) ((25, 63, bg_377), (0, 11, bg_8)) ((0, 11, bg_131), (0, 456, bg_19))
noncomputable def h0_X9_modularOf_9 : zH 5 := (show zT 5 from (((zk_99_zs1_99_n00_X9_modularOf_17, zk_99_zs1_99_n00_X9_modularOf_11), zk_99_zs1_99_n00_X9_modularOf_12), (((((0, 11, bg_374), (0, 0, 0)), zO1), zO2), zO3)), (17, (0, 0)))
noncomputable def h1_X9_modularOf_9 : zH 5 := (show zT 5 from (((zk_99_zs1_99_n00_X9_modularOf_17, zk_99_zs1_99_n00_X9_modularOf_13), zk_99_zs1_99_n00_X9_modularOf_12), (((((0, 11, bg_374), (0, 0, 0)), zO1), zO2), zO3)), (17, (0, 0)))
theorem ev_X9_modularOf_9 : f_X9_modularOfa [zR 1, zI 0] h0_X9_modularOf_9 (zrk (zI 4294967296) h1_X9_modularOf_9) = true := by decide +kernel
noncomputable def g_X9_modularOf_9 {d : Nat} : List zV → zH d → zP d → Bool := zsmyM [(0, 0), (1, 21), (1, 20), (1, 22), (1, 33), (1, 3), (1, 31), (1, 32), (1, 26), (1, 27), (1, 4), (1, 29), (1, 30), (1, 35), (1, 34), (1, 36), (1, 6)] [zR 1, zI 0] h0_X9_modularOf_9 (zI 4294967296) h1_X9_modularOf_9
theorem mg_X9_modularOf_9 {d : Nat} : zMet (d := d) X_X9_modularOf yX9_modularOf 19 g_X9_modularOf_9 := zMet_smM m_X9_modularOfa ev_X9_modularOf_9
noncomputable def h0_X9_modularOf_10 : zH 5 := (show zT 5 from (((zk_99_zs1_99_n00_X9_modularOf_17, zk_99_zs1_99_n00_X9_modularOf_11), zk_99_zs1_99_n00_X9_modularOf_12), (((((0, 11, bg_374), (0, 0, 0)), zO1), zO2), zO3)), (17, (0, 0)))
noncomputable def h1_X9_modularOf_10 : zH 5 := (show zT 5 from (((zk_99_zs1_99_n00_X9_modularOf_17, zk_99_zs1_99_n00_X9_modularOf_13), zk_99_zs1_99_n00_X9_modularOf_12), (((((0, 11, bg_374), (0, 0, 0)), zO1), zO2), zO3)), (17, (0, 0)))
theorem ev_X9_modularOf_10 : f_X9_modularOfa [zR 1, zI 1] h0_X9_modularOf_10 (zrk (zI 4294967296) h1_X9_modularOf_10) = true := by decide +kernel
noncomputable def g_X9_modularOf_10 {d : Nat} : List zV → zH d → zP d → Bool := zsmyM [(0, 0), (1, 21), (1, 20), (1, 22), (1, 33), (1, 3), (1, 31), (1, 32), (1, 26), (1, 27), (1, 4), (1, 29), (1, 30), (1, 35), (1, 34), (1, 36), (1, 6)] [zR 1, zI 1] h0_X9_modularOf_10 (zI 4294967296) h1_X9_modularOf_10
theorem mg_X9_modularOf_10 {d : Nat} : zMet (d := d) X_X9_modularOf yX9_modularOf 19 g_X9_modularOf_10 := zMet_smM m_X9_modularOfa ev_X9_modularOf_10
noncomputable def zk_99_zs1_99_n00_X9_modularOf_18 : zT 2 := @Prod.mk (zT 1) (zT 1) ((25, 63, bg_378), (0, 11, bg_134)) ((0, 11, bg_135), (0, 456, bg_22))
noncomputable def h0_X9_modularOf_11 : zH 5 := (show zT 5 from (((zk_99_zs1_99_n00_X9_modularOf_18, zk_99_zs1_99_n00_X9_modularOf_11), zk_99_zs1_99_n00_X9_modularOf_16), (((((0, 11, bg_374), (0, 0, 0)), zO1), zO2), zO3)), (17, (0, 0)))
noncomputable def h1_X9_modularOf_11 : zH 5 := (show zT 5 from (((zk_99_zs1_99_n00_X9_modularOf_18, zk_99_zs1_99_n00_X9_modularOf_13), zk_99_zs1_99_n00_X9_modularOf_16), (((((0, 11, bg_374), (0, 0, 0)), zO1), zO2), zO3)), (17, (0, 0)))
theorem ev_X9_modularOf_11 : f_X9_modularOfa [zR 1, zI 0] h0_X9_modularOf_11 (zrk (zI 4294967296) h1_X9_modularOf_11) = true := by decide +kernel
noncomputable def g_X9_modularOf_11 {d : Nat} : List zV → zH d → zP d → Bool := zsmyM [(0, 0), (1, 21), (1, 20), (1, 22), (1, 33), (1, 3), (1, 31), (1, 32), (1, 26), (1, 27), (1, 4), (1, 29), (1, 30), (1, 35), (1, 34), (1, 36), (1, 6)] [zR 1, zI 0] h0_X9_modularOf_11 (zI 4294967296) h1_X9_modularOf_11
theorem mg_X9_modularOf_11 {d : Nat} : zMet (d := d) X_X9_modularOf yX9_modularOf 19 g_X9_modularOf_11 := zMet_smM m_X9_modularOfa ev_X9_modularOf_11
noncomputable def h0_X9_modularOf_12 : zH 5 := (show zT 5 from (((zk_99_zs1_99_n00_X9_modularOf_18, zk_99_zs1_99_n00_X9_modularOf_11), zk_99_zs1_99_n00_X9_modularOf_16), (((((0, 11, bg_374), (0, 0, 0)), zO1), zO2), zO3)), (17, (0, 0)))
noncomputable def h1_X9_modularOf_12 : zH 5 := (show zT 5 from (((zk_99_zs1_99_n00_X9_modularOf_18, zk_99_zs1_99_n00_X9_modularOf_13), zk_99_zs1_99_n00_X9_modularOf_16), (((((0, 11, bg_374), (0, 0, 0)), zO1), zO2), zO3)), (17, (0, 0)))
theorem ev_X9_modularOf_12 : f_X9_modularOfa [zR 1, zI 1] h0_X9_modularOf_12 (zrk (zI 4294967296) h1_X9_modularOf_12) = true := by decide +kernel
noncomputable def g_X9_modularOf_12 {d : Nat} : List zV → zH d → zP d → Bool := zsmyM [(0, 0), (1, 21), (1, 20), (1, 22), (1, 33), (1, 3), (1, 31), (1, 32), (1, 26), (1, 27), (1, 4), (1, 29), (1, 30), (1, 35), (1, 34), (1, 36), (1, 6)] [zR 1, zI 1] h0_X9_modularOf_12 (zI 4294967296) h1_X9_modularOf_12
theorem mg_X9_modularOf_12 {d : Nat} : zMet (d := d) X_X9_modularOf yX9_modularOf 19 g_X9_modularOf_12 := zMet_smM m_X9_modularOfa ev_X9_modularOf_12
noncomputable def zk_99_zs1_99_n00_X9_modularOf_19 : zT 2 := @Prod.mk (zT 1) (zT 1) ((25, 63, bg_379), (0, 11, bg_8)) ((0, 11, bg_131), (0, 456, bg_19))
noncomputable def h0_X9_modularOf_13 : zH 5 := (show zT 5 from (((zk_99_zs1_99_n00_X9_modularOf_19, zk_99_zs1_99_n00_X9_modularOf_11), zk_99_zs1_99_n00_X9_modularOf_12), (((((0, 11, bg_374), (0, 0, 0)), zO1), zO2), zO3)), (17, (0, 0)))
noncomputable def h1_X9_modularOf_13 : zH 5 := (show zT 5 from (((zk_99_zs1_99_n00_X9_modularOf_19, zk_99_zs1_99_n00_X9_modularOf_13), zk_99_zs1_99_n00_X9_modularOf_12), (((((0, 11, bg_374), (0, 0, 0)), zO1), zO2), zO3)), (17, (0, 0)))
theorem ev_X9_modularOf_13 : f_X9_modularOfa [zR 1, zI 0] h0_X9_modularOf_13 (zrk (zI 4294967296) h1_X9_modularOf_13) = true := by decide +kernel
noncomputable def g_X9_modularOf_13 {d : Nat} : List zV → zH d → zP d → Bool := zsmyM [(0, 0), (1, 21), (1, 20), (1, 22), (1, 33), (1, 3), (1, 31), (1, 32), (1, 26), (1, 27), (1, 4), (1, 29), (1, 30), (1, 35), (1, 34), (1, 36), (1, 6)] [zR 1, zI 0] h0_X9_modularOf_13 (zI 4294967296) h1_X9_modularOf_13
theorem mg_X9_modularOf_13 {d : Nat} : zMet (d := d) X_X9_modularOf yX9_modularOf 19 g_X9_modularOf_13 := zMet_smM m_X9_modularOfa ev_X9_modularOf_13
noncomputable def h0_X9_modularOf_14 : zH 5 := (show zT 5 from (((zk_99_zs1_99_n00_X9_modularOf_19, zk_99_zs1_99_n00_X9_modularOf_11), zk_99_zs1_99_n00_X9_modularOf_12), (((((0, 11, bg_374), (0, 0, 0)), zO1), zO2), zO3)), (17, (0, 0)))
noncomputable def h1_X9_modularOf_14 : zH 5 := (show zT 5 from (((zk_99_zs1_99_n00_X9_modularOf_19, zk_99_zs1_99_n00_X9_modularOf_13), zk_99_zs1_99_n00_X9_modularOf_12), (((((0, 11, bg_374), (0, 0, 0)), zO1), zO2), zO3)), (17, (0, 0)))
theorem ev_X9_modularOf_14 : f_X9_modularOfa [zR 1, zI 1] h0_X9_modularOf_14 (zrk (zI 4294967296) h1_X9_modularOf_14) = true := by decide +kernel
noncomputable def g_X9_modularOf_14 {d : Nat} : List zV → zH d → zP d → Bool := zsmyM [(0, 0), (1, 21), (1, 20), (1, 22), (1, 33), (1, 3), (1, 31), (1, 32), (1, 26), (1, 27), (1, 4), (1, 29), (1, 30), (1, 35), (1, 34), (1, 36), (1, 6)] [zR 1, zI 1] h0_X9_modularOf_14 (zI 4294967296) h1_X9_modularOf_14
theorem mg_X9_modularOf_14 {d : Nat} : zMet (d := d) X_X9_modularOf yX9_modularOf 19 g_X9_modularOf_14 := zMet_smM m_X9_modularOfa ev_X9_modularOf_14
noncomputable def zk_99_zs1_99_n00_X9_modularOf_20 : zT 2 := @Prod.mk (zT 1) (zT 1) ((25, 63, bg_380), (0, 11, bg_134)) ((0, 11, bg_135), (0, 456, bg_22))
noncomputable def h0_X9_modularOf_15 : zH 5 := (show zT 5 from (((zk_99_zs1_99_n00_X9_modularOf_20, zk_99_zs1_99_n00_X9_modularOf_11), zk_99_zs1_99_n00_X9_modularOf_16), (((((0, 11, bg_374), (0, 0, 0)), zO1), zO2), zO3)), (17, (0, 0)))
noncomputable def h1_X9_modularOf_15 : zH 5 := (show zT 5 from (((zk_99_zs1_99_n00_X9_modularOf_20, zk_99_zs1_99_n00_X9_modularOf_13), zk_99_zs1_99_n00_X9_modularOf_16), (((((0, 11, bg_374), (0, 0, 0)), zO1), zO2), zO3)), (17, (0, 0)))
theorem ev_X9_modularOf_15 : f_X9_modularOfa [zR 1, zI 0] h0_X9_modularOf_15 (zrk (zI 4294967296) h1_X9_modularOf_15) = true := by decide +kernel
noncomputable def g_X9_modularOf_15 {d : Nat} : List zV → zH d → zP d → Bool := zsmyM [(0, 0), (1, 21), (1, 20), (1, 22), (1, 33), (1, 3), (1, 31), (1, 32), (1, 26), (1, 27), (1, 4), (1, 29), (1, 30), (1, 35), (1, 34), (1, 36), (1, 6)] [zR 1, zI 0] h0_X9_modularOf_15 (zI 4294967296) h1_X9_modularOf_15
theorem mg_X9_modularOf_15 {d : Nat} : zMet (d := d) X_X9_modularOf yX9_modularOf 19 g_X9_modularOf_15 := zMet_smM m_X9_modularOfa ev_X9_modularOf_15
noncomputable def h0_X9_modularOf_16 : zH 5 := (show zT 5 from (((zk_99_zs1_99_n00_X9_modularOf_20, zk_99_zs1_99_n00_X9_modularOf_11), zk_99_zs1_99_n00_X9_modularOf_16), (((((0, 11, bg_374), (0, 0, 0)), zO1), zO2), zO3)), (17, (0, 0)))
noncomputable def h1_X9_modularOf_16 : zH 5 := (show zT 5 from (((zk_99_zs1_99_n00_X9_modularOf_20, zk_99_zs1_99_n00_X9_modularOf_13), zk_99_zs1_99_n00_X9_modularOf_16), (((((0, 11, bg_374), (0, 0, 0)), zO1), zO2), zO3)), (17, (0, 0)))
theorem ev_X9_modularOf_16 : f_X9_modularOfa [zR 1, zI 1] h0_X9_modularOf_16 (zrk (zI 4294967296) h1_X9_modularOf_16) = true := by decide +kernel
noncomputable def g_X9_modularOf_16 {d : Nat} : List zV → zH d → zP d → Bool := zsmyM [(0, 0), (1, 21), (1, 20), (1, 22), (1, 33), (1, 3), (1, 31), (1, 32), (1, 26), (1, 27), (1, 4), (1, 29), (1, 30), (1, 35), (1, 34), (1, 36), (1, 6)] [zR 1, zI 1] h0_X9_modularOf_16 (zI 4294967296) h1_X9_modularOf_16
theorem mg_X9_modularOf_16 {d : Nat} : zMet (d := d) X_X9_modularOf yX9_modularOf 19 g_X9_modularOf_16 := zMet_smM m_X9_modularOfa ev_X9_modularOf_16
noncomputable def zk_99_zs1_99_n00_X9_modularOf_21 : zT 2 := @Prod.mk (zT 1) (zT 1) ((25, 63, bg_381), (0, 11, bg_8)) ((0, 11, bg_131), (0, 456, bg_25))
noncomputable def zk_99_zs1_99_n00_X9_modularOf_22 : zT 2 := @Prod.mk (zT 1) (zT 1) (zk_99_zs1_99_n00_X9_modularOf_1, (0, 66, bg_3)) zk_99_zs1_99_n00_X9_modularOf_2
noncomputable def zk_99_zs1_99_n00_X9_modularOf_23 : zT 3 := @Prod.mk (zT 2) (zT 2) (((10, 46656, 3), (11, 720, 3)), ((0, 11, bg_10), (0, 12000, zun 40 12000 4294967296))) zk_99_zs1_99_n00_X9_modularOf_4
noncomputable def h0_X9_modularOf_17 : zH 5 := (show zT 5 from (((zk_99_zs1_99_n00_X9_modularOf_21, zk_99_zs1_99_n00_X9_modularOf_22), zk_99_zs1_99_n00_X9_modularOf_23), (((((0, 11, bg_382), (0, 0, 0)), zO1), zO2), zO3)), (17, (0, 0)))
noncomputable def zk_99_zs1_99_n00_X9_modularOf_24 : zT 2 := @Prod.mk (zT 1) (zT 1) ((0, 7, 0x100000000010000000001000000000000000003000000000200000000010100000000), (0, 66, bg_3)) zk_99_zs1_99_n00_X9_modularOf_2
noncomputable def h1_X9_modularOf_17 : zH 5 := (show zT 5 from (((zk_99_zs1_99_n00_X9_modularOf_21, zk_99_zs1_99_n00_X9_modularOf_24), zk_99_zs1_99_n00_X9_modularOf_23), (((((0, 11, bg_382), (0, 0, 0)), zO1), zO2), zO3)), (17, (0, 0)))
theorem ev_X9_modularOf_17 : f_X9_modularOfa [zR 1, zI 0] h0_X9_modularOf_17 (zrk (zI 4294967296) h1_X9_modularOf_17) = true := by decide +kernel
noncomputable def g_X9_modularOf_17 {d : Nat} : List zV → zH d → zP d → Bool := zsmyM [(0, 0), (1, 21), (1, 20), (1, 22), (1, 33), (1, 3), (1, 31), (1, 32), (1, 26), (1, 27), (1, 4), (1, 29), (1, 30), (1, 35), (1, 34), (1, 36), (1, 6)] [zR 1, zI 0] h0_X9_modularOf_17 (zI 4294967296) h1_X9_modularOf_17
theorem mg_X9_modularOf_17 {d : Nat} : zMet (d := d) X_X9_modularOf yX9_modularOf 19 g_X9_modularOf_17 := zMet_smM m_X9_modularOfa ev_X9_modularOf_17
noncomputable def h0_X9_modularOf_18 : zH 5 := (show zT 5 from (((zk_99_zs1_99_n00_X9_modularOf_21, zk_99_zs1_99_n00_X9_modularOf_22), zk_99_zs1_99_n00_X9_modularOf_23), (((((0, 11, bg_382), (0, 0, 0)), zO1), zO2), zO3)), (17, (0, 0)))
noncomputable def h1_X9_modularOf_18 : zH 5 := (show zT 5 from (((zk_99_zs1_99_n00_X9_modularOf_21, zk_99_zs1_99_n00_X9_modularOf_24), zk_99_zs1_99_n00_X9_modularOf_23), (((((0, 11, bg_382), (0, 0, 0)), zO1), zO2), zO3)), (17, (0, 0)))
theorem ev_X9_modularOf_18 : f_X9_modularOfa [zR 1, zI 2] h0_X9_modularOf_18 (zrk (zI 4294967296) h1_X9_modularOf_18) = true := by decide +kernel
noncomputable def g_X9_modularOf_18 {d : Nat} : List zV → zH d → zP d → Bool := zsmyM [(0, 0), (1, 21), (1, 20), (1, 22), (1, 33), (1, 3), (1, 31), (1, 32), (1, 26), (1, 27), (1, 4), (1, 29), (1, 30), (1, 35), (1, 34), (1, 36), (1, 6)] [zR 1, zI 2] h0_X9_modularOf_18 (zI 4294967296) h1_X9_modularOf_18
theorem mg_X9_modularOf_18 {d : Nat} : zMet (d := d) X_X9_modularOf yX9_modularOf 19 g_X9_modularOf_18 := zMet_smM m_X9_modularOfa ev_X9_modularOf_18
noncomputable def zk_99_zs1_99_n00_X9_modularOf_25 : zT 2 := @Prod.mk (zT 1) (zT 1) ((25, 63, bg_383), (0, 11, bg_9)) ((0, 11, bg_135), (0, 456, bg_28))
noncomputable def zk_99_zs1_99_n00_X9_modularOf_26 : zT 3 := @Prod.mk (zT 2) (zT 2) (((10, 46656, 10), (11, 720, 10)), ((0, 11, bg_10), (0, 12000, zun 40 12000 4294967296))) zk_99_zs1_99_n00_X9_modularOf_4
noncomputable def h0_X9_modularOf_19 : zH 5 := (show zT 5 from (((zk_99_zs1_99_n00_X9_modularOf_25, zk_99_zs1_99_n00_X9_modularOf_22), zk_99_zs1_99_n00_X9_modularOf_26), (((((0, 11, bg_382), (0, 0, 0)), zO1), zO2), zO3)), (17, (0, 0)))
noncomputable def h1_X9_modularOf_19 : zH 5 := (show zT 5 from (((zk_99_zs1_99_n00_X9_modularOf_25, zk_99_zs1_99_n00_X9_modularOf_24), zk_99_zs1_99_n00_X9_modularOf_26), (((((0, 11, bg_382), (0, 0, 0)), zO1), zO2), zO3)), (17, (0, 0)))
theorem ev_X9_modularOf_19 : f_X9_modularOfa [zR 1, zI 0] h0_X9_modularOf_19 (zrk (zI 4294967296) h1_X9_modularOf_19) = true := by decide +kernel
noncomputable def g_X9_modularOf_19 {d : Nat} : List zV → zH d → zP d → Bool := zsmyM [(0, 0), (1, 21), (1, 20), (1, 22), (1, 33), (1, 3), (1, 31), (1, 32), (1, 26), (1, 27), (1, 4), (1, 29), (1, 30), (1, 35), (1, 34), (1, 36), (1, 6)] [zR 1, zI 0] h0_X9_modularOf_19 (zI 4294967296) h1_X9_modularOf_19
theorem mg_X9_modularOf_19 {d : Nat} : zMet (d := d) X_X9_modularOf yX9_modularOf 19 g_X9_modularOf_19 := zMet_smM m_X9_modularOfa ev_X9_modularOf_19
noncomputable def h0_X9_modularOf_20 : zH 5 := (show zT 5 from (((zk_99_zs1_99_n00_X9_modularOf_25, zk_99_zs1_99_n00_X9_modularOf_22), zk_99_zs1_99_n00_X9_modularOf_26), (((((0, 11, bg_382), (0, 0, 0)), zO1), zO2), zO3)), (17, (0, 0)))
noncomputable def h1_X9_modularOf_20 : zH 5 := (show zT 5 from (((zk_99_zs1_99_n00_X9_modularOf_25, zk_99_zs1_99_n00_X9_modularOf_24), zk_99_zs1_99_n00_X9_modularOf_26), (((((0, 11, bg_382), (0, 0, 0)), zO1), zO2), zO3)), (17, (0, 0)))
theorem ev_X9_modularOf_20 : f_X9_modularOfa [zR 1, zI 2] h0_X9_modularOf_20 (zrk (zI 4294967296) h1_X9_modularOf_20) = true := by decide +kernel
noncomputable def g_X9_modularOf_20 {d : Nat} : List zV → zH d → zP d → Bool := zsmyM [(0, 0), (1, 21), (1, 20), (1, 22), (1, 33), (1, 3), (1, 31), (1, 32), (1, 26), (1, 27), (1, 4), (1, 29), (1, 30), (1, 35), (1, 34), (1, 36), (1, 6)] [zR 1, zI 2] h0_X9_modularOf_20 (zI 4294967296) h1_X9_modularOf_20
theorem mg_X9_modularOf_20 {d : Nat} : zMet (d := d) X_X9_modularOf yX9_modularOf 19 g_X9_modularOf_20 := zMet_smM m_X9_modularOfa ev_X9_modularOf_20
noncomputable def zk_99_zs1_99_n00_X9_modularOf_27 : zT 2 := @Prod.mk (zT 1) (zT 1) ((25, 63, bg_384), (0, 11, bg_8)) ((0, 11, bg_131), (0, 456, bg_25))
noncomputable def h0_X9_modularOf_21 : zH 5 := (show zT 5 from (((zk_99_zs1_99_n00_X9_modularOf_27, zk_99_zs1_99_n00_X9_modularOf_22), zk_99_zs1_99_n00_X9_modularOf_23), (((((0, 11, bg_382), (0, 0, 0)), zO1), zO2), zO3)), (17, (0, 0)))
noncomputable def h1_X9_modularOf_21 : zH 5 := (show zT 5 from (((zk_99_zs1_99_n00_X9_modularOf_27, zk_99_zs1_99_n00_X9_modularOf_24), zk_99_zs1_99_n00_X9_modularOf_23), (((((0, 11, bg_382), (0, 0, 0)), zO1), zO2), zO3)), (17, (0, 0)))
theorem ev_X9_modularOf_21 : f_X9_modularOfa [zR 1, zI 1] h0_X9_modularOf_21 (zrk (zI 4294967296) h1_X9_modularOf_21) = true := by decide +kernel
noncomputable def g_X9_modularOf_21 {d : Nat} : List zV → zH d → zP d → Bool := zsmyM [(0, 0), (1, 21), (1, 20), (1, 22), (1, 33), (1, 3), (1, 31), (1, 32), (1, 26), (1, 27), (1, 4), (1, 29), (1, 30), (1, 35), (1, 34), (1, 36), (1, 6)] [zR 1, zI 1] h0_X9_modularOf_21 (zI 4294967296) h1_X9_modularOf_21
theorem mg_X9_modularOf_21 {d : Nat} : zMet (d := d) X_X9_modularOf yX9_modularOf 19 g_X9_modularOf_21 := zMet_smM m_X9_modularOfa ev_X9_modularOf_21
noncomputable def h0_X9_modularOf_22 : zH 5 := (show zT 5 from (((zk_99_zs1_99_n00_X9_modularOf_27, zk_99_zs1_99_n00_X9_modularOf_22), zk_99_zs1_99_n00_X9_modularOf_23), (((((0, 11, bg_382), (0, 0, 0)), zO1), zO2), zO3)), (17, (0, 0)))
noncomputable def h1_X9_modularOf_22 : zH 5 := (show zT 5 from (((zk_99_zs1_99_n00_X9_modularOf_27, zk_99_zs1_99_n00_X9_modularOf_24), zk_99_zs1_99_n00_X9_modularOf_23), (((((0, 11, bg_382), (0, 0, 0)), zO1), zO2), zO3)), (17, (0, 0)))
theorem ev_X9_modularOf_22 : f_X9_modularOfa [zR 1, zI 2] h0_X9_modularOf_22 (zrk (zI 4294967296) h1_X9_modularOf_22) = true := by decide +kernel
noncomputable def g_X9_modularOf_22 {d : Nat} : List zV → zH d → zP d → Bool := zsmyM [(0, 0), (1, 21), (1, 20), (1, 22), (1, 33), (1, 3), (1, 31), (1, 32), (1, 26), (1, 27), (1, 4), (1, 29), (1, 30), (1, 35), (1, 34), (1, 36), (1, 6)] [zR 1, zI 2] h0_X9_modularOf_22 (zI 4294967296) h1_X9_modularOf_22
theorem mg_X9_modularOf_22 {d : Nat} : zMet (d := d) X_X9_modularOf yX9_modularOf 19 g_X9_modularOf_22 := zMet_smM m_X9_modularOfa ev_X9_modularOf_22
noncomputable def zk_99_zs1_99_n00_X9_modularOf_28 : zT 2 := @Prod.mk (zT 1) (zT 1) ((25, 63, bg_385), (0, 11, bg_9)) ((0, 11, bg_135), (0, 456, bg_28))
noncomputable def h0_X9_modularOf_23 : zH 5 := (show zT 5 from (((zk_99_zs1_99_n00_X9_modularOf_28, zk_99_zs1_99_n00_X9_modularOf_22), zk_99_zs1_99_n00_X9_modularOf_26), (((((0, 11, bg_382), (0, 0, 0)), zO1), zO2), zO3)), (17, (0, 0)))
noncomputable def h1_X9_modularOf_23 : zH 5 := (show zT 5 from (((zk_99_zs1_99_n00_X9_modularOf_28, zk_99_zs1_99_n00_X9_modularOf_24), zk_99_zs1_99_n00_X9_modularOf_26), (((((0, 11, bg_382), (0, 0, 0)), zO1), zO2), zO3)), (17, (0, 0)))
theorem ev_X9_modularOf_23 : f_X9_modularOfa [zR 1, zI 1] h0_X9_modularOf_23 (zrk (zI 4294967296) h1_X9_modularOf_23) = true := by decide +kernel
noncomputable def g_X9_modularOf_23 {d : Nat} : List zV → zH d → zP d → Bool := zsmyM [(0, 0), (1, 21), (1, 20), (1, 22), (1, 33), (1, 3), (1, 31), (1, 32), (1, 26), (1, 27), (1, 4), (1, 29), (1, 30), (1, 35), (1, 34), (1, 36), (1, 6)] [zR 1, zI 1] h0_X9_modularOf_23 (zI 4294967296) h1_X9_modularOf_23
theorem mg_X9_modularOf_23 {d : Nat} : zMet (d := d) X_X9_modularOf yX9_modularOf 19 g_X9_modularOf_23 := zMet_smM m_X9_modularOfa ev_X9_modularOf_23
noncomputable def h0_X9_modularOf_24 : zH 5 := (show zT 5 from (((zk_99_zs1_99_n00_X9_modularOf_28, zk_99_zs1_99_n00_X9_modularOf_22), zk_99_zs1_99_n00_X9_modularOf_26), (((((0, 11, bg_382), (0, 0, 0)), zO1), zO2), zO3)), (17, (0, 0)))
noncomputable def h1_X9_modularOf_24 : zH 5 := (show zT 5 from (((zk_99_zs1_99_n00_X9_modularOf_28, zk_99_zs1_99_n00_X9_modularOf_24), zk_99_zs1_99_n00_X9_modularOf_26), (((((0, 11, bg_382), (0, 0, 0)), zO1), zO2), zO3)), (17, (0, 0)))
theorem ev_X9_modularOf_24 : f_X9_modularOfa [zR 1, zI 2] h0_X9_modularOf_24 (zrk (zI 4294967296) h1_X9_modularOf_24) = true := by decide +kernel
noncomputable def g_X9_modularOf_24 {d : Nat} : List zV → zH d → zP d → Bool := zsmyM [(0, 0), (1, 21), (1, 20), (1, 22), (1, 33), (1, 3), (1, 31), (1, 32), (1, 26), (1, 27), (1, 4), (1, 29), (1, 30), (1, 35), (1, 34), (1, 36), (1, 6)] [zR 1, zI 2] h0_X9_modularOf_24 (zI 4294967296) h1_X9_modularOf_24
theorem mg_X9_modularOf_24 {d : Nat} : zMet (d := d) X_X9_modularOf yX9_modularOf 19 g_X9_modularOf_24 := zMet_smM m_X9_modularOfa ev_X9_modularOf_24
noncomputable def zk_99_zs1_99_n00_X9_modularOf_29 : zT 2 := @Prod.mk (zT 1) (zT 1) ((25, 63, bg_386), (0, 11, bg_8)) ((0, 11, bg_131), (0, 456, bg_25))
noncomputable def h0_X9_modularOf_25 : zH 5 := (show zT 5 from (((zk_99_zs1_99_n00_X9_modularOf_29, zk_99_zs1_99_n00_X9_modularOf_22), zk_99_zs1_99_n00_X9_modularOf_23), (((((0, 11, bg_382), (0, 0, 0)), zO1), zO2), zO3)), (17, (0, 0)))
noncomputable def h1_X9_modularOf_25 : zH 5 := (show zT 5 from (((zk_99_zs1_99_n00_X9_modularOf_29, zk_99_zs1_99_n00_X9_modularOf_24), zk_99_zs1_99_n00_X9_modularOf_23), (((((0, 11, bg_382), (0, 0, 0)), zO1), zO2), zO3)), (17, (0, 0)))
theorem ev_X9_modularOf_25 : f_X9_modularOfa [zR 1, zI 0] h0_X9_modularOf_25 (zrk (zI 4294967296) h1_X9_modularOf_25) = true := by decide +kernel
noncomputable def g_X9_modularOf_25 {d : Nat} : List zV → zH d → zP d → Bool := zsmyM [(0, 0), (1, 21), (1, 20), (1, 22), (1, 33), (1, 3), (1, 31), (1, 32), (1, 26), (1, 27), (1, 4), (1, 29), (1, 30), (1, 35), (1, 34), (1, 36), (1, 6)] [zR 1, zI 0] h0_X9_modularOf_25 (zI 4294967296) h1_X9_modularOf_25
theorem mg_X9_modularOf_25 {d : Nat} : zMet (d := d) X_X9_modularOf yX9_modularOf 19 g_X9_modularOf_25 := zMet_smM m_X9_modularOfa ev_X9_modularOf_25
noncomputable def h0_X9_modularOf_26 : zH 5 := (show zT 5 from (((zk_99_zs1_99_n00_X9_modularOf_29, zk_99_zs1_99_n00_X9_modularOf_22), zk_99_zs1_99_n00_X9_modularOf_23), (((((0, 11, bg_382), (0, 0, 0)), zO1), zO2), zO3)), (17, (0, 0)))
noncomputable def h1_X9_modularOf_26 : zH 5 := (show zT 5 from (((zk_99_zs1_99_n00_X9_modularOf_29, zk_99_zs1_99_n00_X9_modularOf_24), zk_99_zs1_99_n00_X9_modularOf_23), (((((0, 11, bg_382), (0, 0, 0)), zO1), zO2), zO3)), (17, (0, 0)))
theorem ev_X9_modularOf_26 : f_X9_modularOfa [zR 1, zI 1] h0_X9_modularOf_26 (zrk (zI 4294967296) h1_X9_modularOf_26) = true := by decide +kernel
noncomputable def g_X9_modularOf_26 {d : Nat} : List zV → zH d → zP d → Bool := zsmyM [(0, 0), (1, 21), (1, 20), (1, 22), (1, 33), (1, 3), (1, 31), (1, 32), (1, 26), (1, 27), (1, 4), (1, 29), (1, 30), (1, 35), (1, 34), (1, 36), (1, 6)] [zR 1, zI 1] h0_X9_modularOf_26 (zI 4294967296) h1_X9_modularOf_26
theorem mg_X9_modularOf_26 {d : Nat} : zMet (d := d) X_X9_modularOf yX9_modularOf 19 g_X9_modularOf_26 := zMet_smM m_X9_modularOfa ev_X9_modularOf_26
noncomputable def h0_X9_modularOf_27 : zH 5 := (show zT 5 from (((zk_99_zs1_99_n00_X9_modularOf_29, zk_99_zs1_99_n00_X9_modularOf_22), zk_99_zs1_99_n00_X9_modularOf_23), (((((0, 11, bg_382), (0, 0, 0)), zO1), zO2), zO3)), (17, (0, 0)))
noncomputable def h1_X9_modularOf_27 : zH 5 := (show zT 5 from (((zk_99_zs1_99_n00_X9_modularOf_29, zk_99_zs1_99_n00_X9_modularOf_24), zk_99_zs1_99_n00_X9_modularOf_23), (((((0, 11, bg_382), (0, 0, 0)), zO1), zO2), zO3)), (17, (0, 0)))
theorem ev_X9_modularOf_27 : f_X9_modularOfa [zR 1, zI 2] h0_X9_modularOf_27 (zrk (zI 4294967296) h1_X9_modularOf_27) = true := by decide +kernel
noncomputable def g_X9_modularOf_27 {d : Nat} : List zV → zH d → zP d → Bool := zsmyM [(0, 0), (1, 21), (1, 20), (1, 22), (1, 33), (1, 3), (1, 31), (1, 32), (1, 26), (1, 27), (1, 4), (1, 29), (1, 30), (1, 35), (1, 34), (1, 36), (1, 6)] [zR 1, zI 2] h0_X9_modularOf_27 (zI 4294967296) h1_X9_modularOf_27
theorem mg_X9_modularOf_27 {d : Nat} : zMet (d := d) X_X9_modularOf yX9_modularOf 19 g_X9_modularOf_27 := zMet_smM m_X9_modularOfa ev_X9_modularOf_27
noncomputable def zk_99_zs1_99_n00_X9_modularOf_30 : zT 2 := @Prod.mk (zT 1) (zT 1) ((25, 63, bg_387), (0, 11, bg_9)) ((0, 11, bg_135), (0, 456, bg_28))
noncomputable def h0_X9_modularOf_28 : zH 5 := (show zT 5 from (((zk_99_zs1_99_n00_X9_modularOf_30, zk_99_zs1_99_n00_X9_modularOf_22), zk_99_zs1_99_n00_X9_modularOf_26), (((((0, 11, bg_382), (0, 0, 0)), zO1), zO2), zO3)), (17, (0, 0)))
noncomputable def h1_X9_modularOf_28 : zH 5 := (show zT 5 from (((zk_99_zs1_99_n00_X9_modularOf_30, zk_99_zs1_99_n00_X9_modularOf_24), zk_99_zs1_99_n00_X9_modularOf_26), (((((0, 11, bg_382), (0, 0, 0)), zO1), zO2), zO3)), (17, (0, 0)))
theorem ev_X9_modularOf_28 : f_X9_modularOfa [zR 1, zI 0] h0_X9_modularOf_28 (zrk (zI 4294967296) h1_X9_modularOf_28) = true := by decide +kernel
noncomputable def g_X9_modularOf_28 {d : Nat} : List zV → zH d → zP d → Bool := zsmyM [(0, 0), (1, 21), (1, 20), (1, 22), (1, 33), (1, 3), (1, 31), (1, 32), (1, 26), (1, 27), (1, 4), (1, 29), (1, 30), (1, 35), (1, 34), (1, 36), (1, 6)] [zR 1, zI 0] h0_X9_modularOf_28 (zI 4294967296) h1_X9_modularOf_28
theorem mg_X9_modularOf_28 {d : Nat} : zMet (d := d) X_X9_modularOf yX9_modularOf 19 g_X9_modularOf_28 := zMet_smM m_X9_modularOfa ev_X9_modularOf_28
noncomputable def h0_X9_modularOf_29 : zH 5 := (show zT 5 from (((zk_99_zs1_99_n00_X9_modularOf_30, zk_99_zs1_99_n00_X9_modularOf_22), zk_99_zs1_99_n00_X9_modularOf_26), (((((0, 11, bg_382), (0, 0, 0)), zO1), zO2), zO3)), (17, (0, 0)))
noncomputable def h1_X9_modularOf_29 : zH 5 := (show zT 5 from (((zk_99_zs1_99_n00_X9_modularOf_30, zk_99_zs1_99_n00_X9_modularOf_24), zk_99_zs1_99_n00_X9_modularOf_26), (((((0, 11, bg_382), (0, 0, 0)), zO1), zO2), zO3)), (17, (0, 0)))
theorem ev_X9_modularOf_29 : f_X9_modularOfa [zR 1, zI 1] h0_X9_modularOf_29 (zrk (zI 4294967296) h1_X9_modularOf_29) = true := by decide +kernel
noncomputable def g_X9_modularOf_29 {d : Nat} : List zV → zH d → zP d → Bool := zsmyM [(0, 0), (1, 21), (1, 20), (1, 22), (1, 33), (1, 3), (1, 31), (1, 32), (1, 26), (1, 27), (1, 4), (1, 29), (1, 30), (1, 35), (1, 34), (1, 36), (1, 6)] [zR 1, zI 1] h0_X9_modularOf_29 (zI 4294967296) h1_X9_modularOf_29
theorem mg_X9_modularOf_29 {d : Nat} : zMet (d := d) X_X9_modularOf yX9_modularOf 19 g_X9_modularOf_29 := zMet_smM m_X9_modularOfa ev_X9_modularOf_29
noncomputable def h0_X9_modularOf_30 : zH 5 := (show zT 5 from (((zk_99_zs1_99_n00_X9_modularOf_30, zk_99_zs1_99_n00_X9_modularOf_22), zk_99_zs1_99_n00_X9_modularOf_26), (((((0, 11, bg_382), (0, 0, 0)), zO1), zO2), zO3)), (17, (0, 0)))
noncomputable def h1_X9_modularOf_30 : zH 5 := (show zT 5 from (((zk_99_zs1_99_n00_X9_modularOf_30, zk_99_zs1_99_n00_X9_modularOf_24), zk_99_zs1_99_n00_X9_modularOf_26), (((((0, 11, bg_382), (0, 0, 0)), zO1), zO2), zO3)), (17, (0, 0)))
theorem ev_X9_modularOf_30 : f_X9_modularOfa [zR 1, zI 2] h0_X9_modularOf_30 (zrk (zI 4294967296) h1_X9_modularOf_30) = true := by decide +kernel
noncomputable def g_X9_modularOf_30 {d : Nat} : List zV → zH d → zP d → Bool := zsmyM [(0, 0), (1, 21), (1, 20), (1, 22), (1, 33), (1, 3), (1, 31), (1, 32), (1, 26), (1, 27), (1, 4), (1, 29), (1, 30), (1, 35), (1, 34), (1, 36), (1, 6)] [zR 1, zI 2] h0_X9_modularOf_30 (zI 4294967296) h1_X9_modularOf_30
theorem mg_X9_modularOf_30 {d : Nat} : zMet (d := d) X_X9_modularOf yX9_modularOf 19 g_X9_modularOf_30 := zMet_smM m_X9_modularOfa ev_X9_modularOf_30
noncomputable def zk_99_zs1_99_n00_X9_modularOf_31 : zT 2 := @Prod.mk (zT 1) (zT 1) ((25, 63, bg_388), (0, 11, bg_139)) ((0, 11, bg_140), (0, 456, bg_31))
noncomputable def zk_99_zs1_99_n00_X9_modularOf_32 : zT 3 := @Prod.mk (zT 2) (zT 2) (((10, 46656, 73), (11, 720, 73)), ((0, 11, bg_10), (0, 12000, zun 40 12000 4294967296))) zk_99_zs1_99_n00_X9_modularOf_4
noncomputable def h0_X9_modularOf_31 : zH 5 := (show zT 5 from (((zk_99_zs1_99_n00_X9_modularOf_31, zk_99_zs1_99_n00_X9_modularOf_22), zk_99_zs1_99_n00_X9_modularOf_32), (((((0, 11, bg_382), (0, 0, 0)), zO1), zO2), zO3)), (17, (0, 0)))
noncomputable def h1_X9_modularOf_31 : zH 5 := (show zT 5 from (((zk_99_zs1_99_n00_X9_modularOf_31, zk_99_zs1_99_n00_X9_modularOf_24), zk_99_zs1_99_n00_X9_modularOf_32), (((((0, 11, bg_382), (0, 0, 0)), zO1), zO2), zO3)), (17, (0, 0)))
theorem ev_X9_modularOf_31 : f_X9_modularOfa [zR 1, zI 0] h0_X9_modularOf_31 (zrk (zI 4294967296) h1_X9_modularOf_31) = true := by decide +kernel
noncomputable def g_X9_modularOf_31 {d : Nat} : List zV → zH d → zP d → Bool := zsmyM [(0, 0), (1, 21), (1, 20), (1, 22), (1, 33), (1, 3), (1, 31), (1, 32), (1, 26), (1, 27), (1, 4), (1, 29), (1, 30), (1, 35), (1, 34), (1, 36), (1, 6)] [zR 1, zI 0] h0_X9_modularOf_31 (zI 4294967296) h1_X9_modularOf_31
theorem mg_X9_modularOf_31 {d : Nat} : zMet (d := d) X_X9_modularOf yX9_modularOf 19 g_X9_modularOf_31 := zMet_smM m_X9_modularOfa ev_X9_modularOf_31
noncomputable def h0_X9_modularOf_32 : zH 5 := (show zT 5 from (((zk_99_zs1_99_n00_X9_modularOf_31, zk_99_zs1_99_n00_X9_modularOf_22), zk_99_zs1_99_n00_X9_modularOf_32), (((((0, 11, bg_382), (0, 0, 0)), zO1), zO2), zO3)), (17, (0, 0)))
noncomputable def h1_X9_modularOf_32 : zH 5 := (show zT 5 from (((zk_99_zs1_99_n00_X9_modularOf_31, zk_99_zs1_99_n00_X9_modularOf_24), zk_99_zs1_99_n00_X9_modularOf_32), (((((0, 11, bg_382), (0, 0, 0)), zO1), zO2), zO3)), (17, (0, 0)))
theorem ev_X9_modularOf_32 : f_X9_modularOfa [zR 1, zI 1] h0_X9_modularOf_32 (zrk (zI 4294967296) h1_X9_modularOf_32) = true := by decide +kernel
noncomputable def g_X9_modularOf_32 {d : Nat} : List zV → zH d → zP d → Bool := zsmyM [(0, 0), (1, 21), (1, 20), (1, 22), (1, 33), (1, 3), (1, 31), (1, 32), (1, 26), (1, 27), (1, 4), (1, 29), (1, 30), (1, 35), (1, 34), (1, 36), (1, 6)] [zR 1, zI 1] h0_X9_modularOf_32 (zI 4294967296) h1_X9_modularOf_32
theorem mg_X9_modularOf_32 {d : Nat} : zMet (d := d) X_X9_modularOf yX9_modularOf 19 g_X9_modularOf_32 := zMet_smM m_X9_modularOfa ev_X9_modularOf_32
noncomputable def h0_X9_modularOf_33 : zH 5 := (show zT 5 from (((zk_99_zs1_99_n00_X9_modularOf_31, zk_99_zs1_99_n00_X9_modularOf_22), zk_99_zs1_99_n00_X9_modularOf_32), (((((0, 11, bg_382), (0, 0, 0)), zO1), zO2), zO3)), (17, (0, 0)))
noncomputable def h1_X9_modularOf_33 : zH 5 := (show zT 5 from (((zk_99_zs1_99_n00_X9_modularOf_31, zk_99_zs1_99_n00_X9_modularOf_24), zk_99_zs1_99_n00_X9_modularOf_32), (((((0, 11, bg_382), (0, 0, 0)), zO1), zO2), zO3)), (17, (0, 0)))
theorem ev_X9_modularOf_33 : f_X9_modularOfa [zR 1, zI 2] h0_X9_modularOf_33 (zrk (zI 4294967296) h1_X9_modularOf_33) = true := by decide +kernel
noncomputable def g_X9_modularOf_33 {d : Nat} : List zV → zH d → zP d → Bool := zsmyM [(0, 0), (1, 21), (1, 20), (1, 22), (1, 33), (1, 3), (1, 31), (1, 32), (1, 26), (1, 27), (1, 4), (1, 29), (1, 30), (1, 35), (1, 34), (1, 36), (1, 6)] [zR 1, zI 2] h0_X9_modularOf_33 (zI 4294967296) h1_X9_modularOf_33
theorem mg_X9_modularOf_33 {d : Nat} : zMet (d := d) X_X9_modularOf yX9_modularOf 19 g_X9_modularOf_33 := zMet_smM m_X9_modularOfa ev_X9_modularOf_33
noncomputable def zk_99_zs1_99_n00_X9_modularOf_33 : zT 2 := @Prod.mk (zT 1) (zT 1) ((25, 63, bg_389), (0, 11, bg_8)) ((0, 11, bg_131), (0, 456, bg_25))
noncomputable def h0_X9_modularOf_34 : zH 5 := (show zT 5 from (((zk_99_zs1_99_n00_X9_modularOf_33, zk_99_zs1_99_n00_X9_modularOf_22), zk_99_zs1_99_n00_X9_modularOf_23), (((((0, 11, bg_382), (0, 0, 0)), zO1), zO2), zO3)), (17, (0, 0)))
noncomputable def h1_X9_modularOf_34 : zH 5 := (show zT 5 from (((zk_99_zs1_99_n00_X9_modularOf_33, zk_99_zs1_99_n00_X9_modularOf_24), zk_99_zs1_99_n00_X9_modularOf_23), (((((0, 11, bg_382), (0, 0, 0)), zO1), zO2), zO3)), (17, (0, 0)))
theorem ev_X9_modularOf_34 : f_X9_modularOfa [zR 1, zI 0] h0_X9_modularOf_34 (zrk (zI 4294967296) h1_X9_modularOf_34) = true := by decide +kernel
noncomputable def g_X9_modularOf_34 {d : Nat} : List zV → zH d → zP d → Bool := zsmyM [(0, 0), (1, 21), (1, 20), (1, 22), (1, 33), (1, 3), (1, 31), (1, 32), (1, 26), (1, 27), (1, 4), (1, 29), (1, 30), (1, 35), (1, 34), (1, 36), (1, 6)] [zR 1, zI 0] h0_X9_modularOf_34 (zI 4294967296) h1_X9_modularOf_34
theorem mg_X9_modularOf_34 {d : Nat} : zMet (d := d) X_X9_modularOf yX9_modularOf 19 g_X9_modularOf_34 := zMet_smM m_X9_modularOfa ev_X9_modularOf_34
noncomputable def h0_X9_modularOf_35 : zH 5 := (show zT 5 from (((zk_99_zs1_99_n00_X9_modularOf_33, zk_99_zs1_99_n00_X9_modularOf_22), zk_99_zs1_99_n00_X9_modularOf_23), (((((0, 11, bg_382), (0, 0, 0)), zO1), zO2), zO3)), (17, (0, 0)))
noncomputable def h1_X9_modularOf_35 : zH 5 := (show zT 5 from (((zk_99_zs1_99_n00_X9_modularOf_33, zk_99_zs1_99_n00_X9_modularOf_24), zk_99_zs1_99_n00_X9_modularOf_23), (((((0, 11, bg_382), (0, 0, 0)), zO1), zO2), zO3)), (17, (0, 0)))
theorem ev_X9_modularOf_35 : f_X9_modularOfa [zR 1, zI 1] h0_X9_modularOf_35 (zrk (zI 4294967296) h1_X9_modularOf_35) = true := by decide +kernel
noncomputable def g_X9_modularOf_35 {d : Nat} : List zV → zH d → zP d → Bool := zsmyM [(0, 0), (1, 21), (1, 20), (1, 22), (1, 33), (1, 3), (1, 31), (1, 32), (1, 26), (1, 27), (1, 4), (1, 29), (1, 30), (1, 35), (1, 34), (1, 36), (1, 6)] [zR 1, zI 1] h0_X9_modularOf_35 (zI 4294967296) h1_X9_modularOf_35
theorem mg_X9_modularOf_35 {d : Nat} : zMet (d := d) X_X9_modularOf yX9_modularOf 19 g_X9_modularOf_35 := zMet_smM m_X9_modularOfa ev_X9_modularOf_35
noncomputable def h0_X9_modularOf_36 : zH 5 := (show zT 5 from (((zk_99_zs1_99_n00_X9_modularOf_33, zk_99_zs1_99_n00_X9_modularOf_22), zk_99_zs1_99_n00_X9_modularOf_23), (((((0, 11, bg_382), (0, 0, 0)), zO1), zO2), zO3)), (17, (0, 0)))
noncomputable def h1_X9_modularOf_36 : zH 5 := (show zT 5 from (((zk_99_zs1_99_n00_X9_modularOf_33, zk_99_zs1_99_n00_X9_modularOf_24), zk_99_zs1_99_n00_X9_modularOf_23), (((((0, 11, bg_382), (0, 0, 0)), zO1), zO2), zO3)), (17, (0, 0)))
theorem ev_X9_modularOf_36 : f_X9_modularOfa [zR 1, zI 2] h0_X9_modularOf_36 (zrk (zI 4294967296) h1_X9_modularOf_36) = true := by decide +kernel
noncomputable def g_X9_modularOf_36 {d : Nat} : List zV → zH d → zP d → Bool := zsmyM [(0, 0), (1, 21), (1, 20), (1, 22), (1, 33), (1, 3), (1, 31), (1, 32), (1, 26), (1, 27), (1, 4), (1, 29), (1, 30), (1, 35), (1, 34), (1, 36), (1, 6)] [zR 1, zI 2] h0_X9_modularOf_36 (zI 4294967296) h1_X9_modularOf_36
theorem mg_X9_modularOf_36 {d : Nat} : zMet (d := d) X_X9_modularOf yX9_modularOf 19 g_X9_modularOf_36 := zMet_smM m_X9_modularOfa ev_X9_modularOf_36
noncomputable def zk_99_zs1_99_n00_X9_modularOf_34 : zT 2 := @Prod.mk (zT 1) (zT 1) ((25, 63, bg_390), (0, 11, bg_9)) ((0, 11, bg_135), (0, 456, bg_28))
noncomputable def h0_X9_modularOf_37 : zH 5 := (show zT 5 from (((zk_99_zs1_99_n00_X9_modularOf_34, zk_99_zs1_99_n00_X9_modularOf_22), zk_99_zs1_99_n00_X9_modularOf_26), (((((0, 11, bg_382), (0, 0, 0)), zO1), zO2), zO3)), (17, (0, 0)))
noncomputable def h1_X9_modularOf_37 : zH 5 := (show zT 5 from (((zk_99_zs1_99_n00_X9_modularOf_34, zk_99_zs1_99_n00_X9_modularOf_24), zk_99_zs1_99_n00_X9_modularOf_26), (((((0, 11, bg_382), (0, 0, 0)), zO1), zO2), zO3)), (17, (0, 0)))
theorem ev_X9_modularOf_37 : f_X9_modularOfa [zR 1, zI 0] h0_X9_modularOf_37 (zrk (zI 4294967296) h1_X9_modularOf_37) = true := by decide +kernel
noncomputable def g_X9_modularOf_37 {d : Nat} : List zV → zH d → zP d → Bool := zsmyM [(0, 0), (1, 21), (1, 20), (1, 22), (1, 33), (1, 3), (1, 31), (1, 32), (1, 26), (1, 27), (1, 4), (1, 29), (1, 30), (1, 35), (1, 34), (1, 36), (1, 6)] [zR 1, zI 0] h0_X9_modularOf_37 (zI 4294967296) h1_X9_modularOf_37
theorem mg_X9_modularOf_37 {d : Nat} : zMet (d := d) X_X9_modularOf yX9_modularOf 19 g_X9_modularOf_37 := zMet_smM m_X9_modularOfa ev_X9_modularOf_37
noncomputable def h0_X9_modularOf_38 : zH 5 := (show zT 5 from (((zk_99_zs1_99_n00_X9_modularOf_34, zk_99_zs1_99_n00_X9_modularOf_22), zk_99_zs1_99_n00_X9_modularOf_26), (((((0, 11, bg_382), (0, 0, 0)), zO1), zO2), zO3)), (17, (0, 0)))
noncomputable def h1_X9_modularOf_38 : zH 5 := (show zT 5 from (((zk_99_zs1_99_n00_X9_modularOf_34, zk_99_zs1_99_n00_X9_modularOf_24), zk_99_zs1_99_n00_X9_modularOf_26), (((((0, 11, bg_382), (0, 0, 0)), zO1), zO2), zO3)), (17, (0, 0)))
theorem ev_X9_modularOf_38 : f_X9_modularOfa [zR 1, zI 1] h0_X9_modularOf_38 (zrk (zI 4294967296) h1_X9_modularOf_38) = true := by decide +kernel
noncomputable def g_X9_modularOf_38 {d : Nat} : List zV → zH d → zP d → Bool := zsmyM [(0, 0), (1, 21), (1, 20), (1, 22), (1, 33), (1, 3), (1, 31), (1, 32), (1, 26), (1, 27), (1, 4), (1, 29), (1, 30), (1, 35), (1, 34), (1, 36), (1, 6)] [zR 1, zI 1] h0_X9_modularOf_38 (zI 4294967296) h1_X9_modularOf_38
theorem mg_X9_modularOf_38 {d : Nat} : zMet (d := d) X_X9_modularOf yX9_modularOf 19 g_X9_modularOf_38 := zMet_smM m_X9_modularOfa ev_X9_modularOf_38
noncomputable def h0_X9_modularOf_39 : zH 5 := (show zT 5 from (((zk_99_zs1_99_n00_X9_modularOf_34, zk_99_zs1_99_n00_X9_modularOf_22), zk_99_zs1_99_n00_X9_modularOf_26), (((((0, 11, bg_382), (0, 0, 0)), zO1), zO2), zO3)), (17, (0, 0)))
noncomputable def h1_X9_modularOf_39 : zH 5 := (show zT 5 from (((zk_99_zs1_99_n00_X9_modularOf_34, zk_99_zs1_99_n00_X9_modularOf_24), zk_99_zs1_99_n00_X9_modularOf_26), (((((0, 11, bg_382), (0, 0, 0)), zO1), zO2), zO3)), (17, (0, 0)))
theorem ev_X9_modularOf_39 : f_X9_modularOfa [zR 1, zI 2] h0_X9_modularOf_39 (zrk (zI 4294967296) h1_X9_modularOf_39) = true := by decide +kernel
noncomputable def g_X9_modularOf_39 {d : Nat} : List zV → zH d → zP d → Bool := zsmyM [(0, 0), (1, 21), (1, 20), (1, 22), (1, 33), (1, 3), (1, 31), (1, 32), (1, 26), (1, 27), (1, 4), (1, 29), (1, 30), (1, 35), (1, 34), (1, 36), (1, 6)] [zR 1, zI 2] h0_X9_modularOf_39 (zI 4294967296) h1_X9_modularOf_39
theorem mg_X9_modularOf_39 {d : Nat} : zMet (d := d) X_X9_modularOf yX9_modularOf 19 g_X9_modularOf_39 := zMet_smM m_X9_modularOfa ev_X9_modularOf_39
noncomputable def zk_99_zs1_99_n00_X9_modularOf_35 : zT 2 := @Prod.mk (zT 1) (zT 1) ((25, 63, bg_391), (0, 11, bg_139)) ((0, 11, bg_140), (0, 456, bg_31))
noncomputable def h0_X9_modularOf_40 : zH 5 := (show zT 5 from (((zk_99_zs1_99_n00_X9_modularOf_35, zk_99_zs1_99_n00_X9_modularOf_22), zk_99_zs1_99_n00_X9_modularOf_32), (((((0, 11, bg_382), (0, 0, 0)), zO1), zO2), zO3)), (17, (0, 0)))
noncomputable def h1_X9_modularOf_40 : zH 5 := (show zT 5 from (((zk_99_zs1_99_n00_X9_modularOf_35, zk_99_zs1_99_n00_X9_modularOf_24), zk_99_zs1_99_n00_X9_modularOf_32), (((((0, 11, bg_382), (0, 0, 0)), zO1), zO2), zO3)), (17, (0, 0)))
theorem ev_X9_modularOf_40 : f_X9_modularOfa [zR 1, zI 0] h0_X9_modularOf_40 (zrk (zI 4294967296) h1_X9_modularOf_40) = true := by decide +kernel
noncomputable def g_X9_modularOf_40 {d : Nat} : List zV → zH d → zP d → Bool := zsmyM [(0, 0), (1, 21), (1, 20), (1, 22), (1, 33), (1, 3), (1, 31), (1, 32), (1, 26), (1, 27), (1, 4), (1, 29), (1, 30), (1, 35), (1, 34), (1, 36), (1, 6)] [zR 1, zI 0] h0_X9_modularOf_40 (zI 4294967296) h1_X9_modularOf_40
theorem mg_X9_modularOf_40 {d : Nat} : zMet (d := d) X_X9_modularOf yX9_modularOf 19 g_X9_modularOf_40 := zMet_smM m_X9_modularOfa ev_X9_modularOf_40
noncomputable def h0_X9_modularOf_41 : zH 5 := (show zT 5 from (((zk_99_zs1_99_n00_X9_modularOf_35, zk_99_zs1_99_n00_X9_modularOf_22), zk_99_zs1_99_n00_X9_modularOf_32), (((((0, 11, bg_382), (0, 0, 0)), zO1), zO2), zO3)), (17, (0, 0)))
noncomputable def h1_X9_modularOf_41 : zH 5 := (show zT 5 from (((zk_99_zs1_99_n00_X9_modularOf_35, zk_99_zs1_99_n00_X9_modularOf_24), zk_99_zs1_99_n00_X9_modularOf_32), (((((0, 11, bg_382), (0, 0, 0)), zO1), zO2), zO3)), (17, (0, 0)))
theorem ev_X9_modularOf_41 : f_X9_modularOfa [zR 1, zI 1] h0_X9_modularOf_41 (zrk (zI 4294967296) h1_X9_modularOf_41) = true := by decide +kernel
noncomputable def g_X9_modularOf_41 {d : Nat} : List zV → zH d → zP d → Bool := zsmyM [(0, 0), (1, 21), (1, 20), (1, 22), (1, 33), (1, 3), (1, 31), (1, 32), (1, 26), (1, 27), (1, 4), (1, 29), (1, 30), (1, 35), (1, 34), (1, 36), (1, 6)] [zR 1, zI 1] h0_X9_modularOf_41 (zI 4294967296) h1_X9_modularOf_41
theorem mg_X9_modularOf_41 {d : Nat} : zMet (d := d) X_X9_modularOf yX9_modularOf 19 g_X9_modularOf_41 := zMet_smM m_X9_modularOfa ev_X9_modularOf_41
noncomputable def h0_X9_modularOf_42 : zH 5 := (show zT 5 from (((zk_99_zs1_99_n00_X9_modularOf_35, zk_99_zs1_99_n00_X9_modularOf_22), zk_99_zs1_99_n00_X9_modularOf_32), (((((0, 11, bg_382), (0, 0, 0)), zO1), zO2), zO3)), (17, (0, 0)))
noncomputable def h1_X9_modularOf_42 : zH 5 := (show zT 5 from (((zk_99_zs1_99_n00_X9_modularOf_35, zk_99_zs1_99_n00_X9_modularOf_24), zk_99_zs1_99_n00_X9_modularOf_32), (((((0, 11, bg_382), (0, 0, 0)), zO1), zO2), zO3)), (17, (0, 0)))
theorem ev_X9_modularOf_42 : f_X9_modularOfa [zR 1, zI 2] h0_X9_modularOf_42 (zrk (zI 4294967296) h1_X9_modularOf_42) = true := by decide +kernel
noncomputable def g_X9_modularOf_42 {d : Nat} : List zV → zH d → zP d → Bool := zsmyM [(0, 0), (1, 21), (1, 20), (1, 22), (1, 33), (1, 3), (1, 31), (1, 32), (1, 26), (1, 27), (1, 4), (1, 29), (1, 30), (1, 35), (1, 34), (1, 36), (1, 6)] [zR 1, zI 2] h0_X9_modularOf_42 (zI 4294967296) h1_X9_modularOf_42
theorem mg_X9_modularOf_42 {d : Nat} : zMet (d := d) X_X9_modularOf yX9_modularOf 19 g_X9_modularOf_42 := zMet_smM m_X9_modularOfa ev_X9_modularOf_42
noncomputable def zk_99_zs1_99_n00_X9_modularOf_36 : zT 2 := @Prod.mk (zT 1) (zT 1) ((25, 63, bg_392), (0, 11, bg_8)) ((0, 11, bg_131), (0, 456, bg_34))
noncomputable def zk_99_zs1_99_n00_X9_modularOf_37 : zT 2 := @Prod.mk (zT 1) (zT 1) (zk_99_zs1_99_n00_X9_modularOf_1, (0, 66, bg_4)) zk_99_zs1_99_n00_X9_modularOf_2
noncomputable def zk_99_zs1_99_n00_X9_modularOf_38 : zT 3 := @Prod.mk (zT 2) (zT 2) (((10, 46656, 4), (11, 720, 4)), ((0, 11, bg_11), (0, 12000, zun 40 12000 4294967296))) zk_99_zs1_99_n00_X9_modularOf_4
noncomputable def h0_X9_modularOf_43 : zH 5 := (show zT 5 from (((zk_99_zs1_99_n00_X9_modularOf_36, zk_99_zs1_99_n00_X9_modularOf_37), zk_99_zs1_99_n00_X9_modularOf_38), (((((0, 11, bg_393), (0, 0, 0)), zO1), zO2), zO3)), (17, (0, 0)))
noncomputable def zk_99_zs1_99_n00_X9_modularOf_39 : zT 2 := @Prod.mk (zT 1) (zT 1) ((0, 7, 0x100000000010000000000000000040000000003000000000200000000010100000000), (0, 66, bg_4)) zk_99_zs1_99_n00_X9_modularOf_2
noncomputable def h1_X9_modularOf_43 : zH 5 := (show zT 5 from (((zk_99_zs1_99_n00_X9_modularOf_36, zk_99_zs1_99_n00_X9_modularOf_39), zk_99_zs1_99_n00_X9_modularOf_38), (((((0, 11, bg_393), (0, 0, 0)), zO1), zO2), zO3)), (17, (0, 0)))
theorem ev_X9_modularOf_43 : f_X9_modularOfa [zR 1, zI 1] h0_X9_modularOf_43 (zrk (zI 4294967296) h1_X9_modularOf_43) = true := by decide +kernel
noncomputable def g_X9_modularOf_43 {d : Nat} : List zV → zH d → zP d → Bool := zsmyM [(0, 0), (1, 21), (1, 20), (1, 22), (1, 33), (1, 3), (1, 31), (1, 32), (1, 26), (1, 27), (1, 4), (1, 29), (1, 30), (1, 35), (1, 34), (1, 36), (1, 6)] [zR 1, zI 1] h0_X9_modularOf_43 (zI 4294967296) h1_X9_modularOf_43
theorem mg_X9_modularOf_43 {d : Nat} : zMet (d := d) X_X9_modularOf yX9_modularOf 19 g_X9_modularOf_43 := zMet_smM m_X9_modularOfa ev_X9_modularOf_43
noncomputable def h0_X9_modularOf_44 : zH 5 := (show zT 5 from (((zk_99_zs1_99_n00_X9_modularOf_36, zk_99_zs1_99_n00_X9_modularOf_37), zk_99_zs1_99_n00_X9_modularOf_38), (((((0, 11, bg_393), (0, 0, 0)), zO1), zO2), zO3)), (17, (0, 0)))
noncomputable def h1_X9_modularOf_44 : zH 5 := (show zT 5 from (((zk_99_zs1_99_n00_X9_modularOf_36, zk_99_zs1_99_n00_X9_modularOf_39), zk_99_zs1_99_n00_X9_modularOf_38), (((((0, 11, bg_393), (0, 0, 0)), zO1), zO2), zO3)), (17, (0, 0)))
theorem ev_X9_modularOf_44 : f_X9_modularOfa [zR 1, zI 4] h0_X9_modularOf_44 (zrk (zI 4294967296) h1_X9_modularOf_44) = true := by decide +kernel
noncomputable def g_X9_modularOf_44 {d : Nat} : List zV → zH d → zP d → Bool := zsmyM [(0, 0), (1, 21), (1, 20), (1, 22), (1, 33), (1, 3), (1, 31), (1, 32), (1, 26), (1, 27), (1, 4), (1, 29), (1, 30), (1, 35), (1, 34), (1, 36), (1, 6)] [zR 1, zI 4] h0_X9_modularOf_44 (zI 4294967296) h1_X9_modularOf_44
theorem mg_X9_modularOf_44 {d : Nat} : zMet (d := d) X_X9_modularOf yX9_modularOf 19 g_X9_modularOf_44 := zMet_smM m_X9_modularOfa ev_X9_modularOf_44
noncomputable def zk_99_zs1_99_n00_X9_modularOf_40 : zT 2 := @Prod.mk (zT 1) (zT 1) ((25, 63, bg_394), (0, 11, bg_143)) ((0, 11, bg_135), (0, 456, bg_37))
noncomputable def zk_99_zs1_99_n00_X9_modularOf_41 : zT 3 := @Prod.mk (zT 2) (zT 2) (((10, 46656, 11), (11, 720, 11)), ((0, 11, bg_11), (0, 12000, zun 40 12000 4294967296))) zk_99_zs1_99_n00_X9_modularOf_4
noncomputable def h0_X9_modularOf_45 : zH 5 := (show zT 5 from (((zk_99_zs1_99_n00_X9_modularOf_40, zk_99_zs1_99_n00_X9_modularOf_37), zk_99_zs1_99_n00_X9_modularOf_41), (((((0, 11, bg_393), (0, 0, 0)), zO1), zO2), zO3)), (17, (0, 0)))
noncomputable def h1_X9_modularOf_45 : zH 5 := (show zT 5 from (((zk_99_zs1_99_n00_X9_modularOf_40, zk_99_zs1_99_n00_X9_modularOf_39), zk_99_zs1_99_n00_X9_modularOf_41), (((((0, 11, bg_393), (0, 0, 0)), zO1), zO2), zO3)), (17, (0, 0)))
theorem ev_X9_modularOf_45 : f_X9_modularOfa [zR 1, zI 1] h0_X9_modularOf_45 (zrk (zI 4294967296) h1_X9_modularOf_45) = true := by decide +kernel
noncomputable def g_X9_modularOf_45 {d : Nat} : List zV → zH d → zP d → Bool := zsmyM [(0, 0), (1, 21), (1, 20), (1, 22), (1, 33), (1, 3), (1, 31), (1, 32), (1, 26), (1, 27), (1, 4), (1, 29), (1, 30), (1, 35), (1, 34), (1, 36), (1, 6)] [zR 1, zI 1] h0_X9_modularOf_45 (zI 4294967296) h1_X9_modularOf_45
theorem mg_X9_modularOf_45 {d : Nat} : zMet (d := d) X_X9_modularOf yX9_modularOf 19 g_X9_modularOf_45 := zMet_smM m_X9_modularOfa ev_X9_modularOf_45
noncomputable def h0_X9_modularOf_46 : zH 5 := (show zT 5 from (((zk_99_zs1_99_n00_X9_modularOf_40, zk_99_zs1_99_n00_X9_modularOf_37), zk_99_zs1_99_n00_X9_modularOf_41), (((((0, 11, bg_393), (0, 0, 0)), zO1), zO2), zO3)), (17, (0, 0)))
noncomputable def h1_X9_modularOf_46 : zH 5 := (show zT 5 from (((zk_99_zs1_99_n00_X9_modularOf_40, zk_99_zs1_99_n00_X9_modularOf_39), zk_99_zs1_99_n00_X9_modularOf_41), (((((0, 11, bg_393), (0, 0, 0)), zO1), zO2), zO3)), (17, (0, 0)))
theorem ev_X9_modularOf_46 : f_X9_modularOfa [zR 1, zI 4] h0_X9_modularOf_46 (zrk (zI 4294967296) h1_X9_modularOf_46) = true := by decide +kernel
noncomputable def g_X9_modularOf_46 {d : Nat} : List zV → zH d → zP d → Bool := zsmyM [(0, 0), (1, 21), (1, 20), (1, 22), (1, 33), (1, 3), (1, 31), (1, 32), (1, 26), (1, 27), (1, 4), (1, 29), (1, 30), (1, 35), (1, 34), (1, 36), (1, 6)] [zR 1, zI 4] h0_X9_modularOf_46 (zI 4294967296) h1_X9_modularOf_46
theorem mg_X9_modularOf_46 {d : Nat} : zMet (d := d) X_X9_modularOf yX9_modularOf 19 g_X9_modularOf_46 := zMet_smM m_X9_modularOfa ev_X9_modularOf_46
noncomputable def zk_99_zs1_99_n00_X9_modularOf_42 : zT 2 := @Prod.mk (zT 1) (zT 1) ((25, 63, bg_395), (0, 11, bg_8)) ((0, 11, bg_131), (0, 456, bg_34))
noncomputable def h0_X9_modularOf_47 : zH 5 := (show zT 5 from (((zk_99_zs1_99_n00_X9_modularOf_42, zk_99_zs1_99_n00_X9_modularOf_37), zk_99_zs1_99_n00_X9_modularOf_38), (((((0, 11, bg_393), (0, 0, 0)), zO1), zO2), zO3)), (17, (0, 0)))
noncomputable def h1_X9_modularOf_47 : zH 5 := (show zT 5 from (((zk_99_zs1_99_n00_X9_modularOf_42, zk_99_zs1_99_n00_X9_modularOf_39), zk_99_zs1_99_n00_X9_modularOf_38), (((((0, 11, bg_393), (0, 0, 0)), zO1), zO2), zO3)), (17, (0, 0)))
theorem ev_X9_modularOf_47 : f_X9_modularOfa [zR 1, zI 0] h0_X9_modularOf_47 (zrk (zI 4294967296) h1_X9_modularOf_47) = true := by decide +kernel
noncomputable def g_X9_modularOf_47 {d : Nat} : List zV → zH d → zP d → Bool := zsmyM [(0, 0), (1, 21), (1, 20), (1, 22), (1, 33), (1, 3), (1, 31), (1, 32), (1, 26), (1, 27), (1, 4), (1, 29), (1, 30), (1, 35), (1, 34), (1, 36), (1, 6)] [zR 1, zI 0] h0_X9_modularOf_47 (zI 4294967296) h1_X9_modularOf_47
theorem mg_X9_modularOf_47 {d : Nat} : zMet (d := d) X_X9_modularOf yX9_modularOf 19 g_X9_modularOf_47 := zMet_smM m_X9_modularOfa ev_X9_modularOf_47
noncomputable def h0_X9_modularOf_48 : zH 5 := (show zT 5 from (((zk_99_zs1_99_n00_X9_modularOf_42, zk_99_zs1_99_n00_X9_modularOf_37), zk_99_zs1_99_n00_X9_modularOf_38), (((((0, 11, bg_393), (0, 0, 0)), zO1), zO2), zO3)), (17, (0, 0)))
noncomputable def h1_X9_modularOf_48 : zH 5 := (show zT 5 from (((zk_99_zs1_99_n00_X9_modularOf_42, zk_99_zs1_99_n00_X9_modularOf_39), zk_99_zs1_99_n00_X9_modularOf_38), (((((0, 11, bg_393), (0, 0, 0)), zO1), zO2), zO3)), (17, (0, 0)))
theorem ev_X9_modularOf_48 : f_X9_modularOfa [zR 1, zI 2] h0_X9_modularOf_48 (zrk (zI 4294967296) h1_X9_modularOf_48) = true := by decide +kernel
noncomputable def g_X9_modularOf_48 {d : Nat} : List zV → zH d → zP d → Bool := zsmyM [(0, 0), (1, 21), (1, 20), (1, 22), (1, 33), (1, 3), (1, 31), (1, 32), (1, 26), (1, 27), (1, 4), (1, 29), (1, 30), (1, 35), (1, 34), (1, 36), (1, 6)] [zR 1, zI 2] h0_X9_modularOf_48 (zI 4294967296) h1_X9_modularOf_48
theorem mg_X9_modularOf_48 {d : Nat} : zMet (d := d) X_X9_modularOf yX9_modularOf 19 g_X9_modularOf_48 := zMet_smM m_X9_modularOfa ev_X9_modularOf_48
noncomputable def h0_X9_modularOf_49 : zH 5 := (show zT 5 from (((zk_99_zs1_99_n00_X9_modularOf_42, zk_99_zs1_99_n00_X9_modularOf_37), zk_99_zs1_99_n00_X9_modularOf_38), (((((0, 11, bg_393), (0, 0, 0)), zO1), zO2), zO3)), (17, (0, 0)))
noncomputable def h1_X9_modularOf_49 : zH 5 := (show zT 5 from (((zk_99_zs1_99_n00_X9_modularOf_42, zk_99_zs1_99_n00_X9_modularOf_39), zk_99_zs1_99_n00_X9_modularOf_38), (((((0, 11, bg_393), (0, 0, 0)), zO1), zO2), zO3)), (17, (0, 0)))
theorem ev_X9_modularOf_49 : f_X9_modularOfa [zR 1, zI 3] h0_X9_modularOf_49 (zrk (zI 4294967296) h1_X9_modularOf_49) = true := by decide +kernel
noncomputable def g_X9_modularOf_49 {d : Nat} : List zV → zH d → zP d → Bool := zsmyM [(0, 0), (1, 21), (1, 20), (1, 22), (1, 33), (1, 3), (1, 31), (1, 32), (1, 26), (1, 27), (1, 4), (1, 29), (1, 30), (1, 35), (1, 34), (1, 36), (1, 6)] [zR 1, zI 3] h0_X9_modularOf_49 (zI 4294967296) h1_X9_modularOf_49
theorem mg_X9_modularOf_49 {d : Nat} : zMet (d := d) X_X9_modularOf yX9_modularOf 19 g_X9_modularOf_49 := zMet_smM m_X9_modularOfa ev_X9_modularOf_49
noncomputable def h0_X9_modularOf_50 : zH 5 := (show zT 5 from (((zk_99_zs1_99_n00_X9_modularOf_42, zk_99_zs1_99_n00_X9_modularOf_37), zk_99_zs1_99_n00_X9_modularOf_38), (((((0, 11, bg_393), (0, 0, 0)), zO1), zO2), zO3)), (17, (0, 0)))
noncomputable def h1_X9_modularOf_50 : zH 5 := (show zT 5 from (((zk_99_zs1_99_n00_X9_modularOf_42, zk_99_zs1_99_n00_X9_modularOf_39), zk_99_zs1_99_n00_X9_modularOf_38), (((((0, 11, bg_393), (0, 0, 0)), zO1), zO2), zO3)), (17, (0, 0)))
theorem ev_X9_modularOf_50 : f_X9_modularOfa [zR 1, zI 4] h0_X9_modularOf_50 (zrk (zI 4294967296) h1_X9_modularOf_50) = true := by decide +kernel
noncomputable def g_X9_modularOf_50 {d : Nat} : List zV → zH d → zP d → Bool := zsmyM [(0, 0), (1, 21), (1, 20), (1, 22), (1, 33), (1, 3), (1, 31), (1, 32), (1, 26), (1, 27), (1, 4), (1, 29), (1, 30), (1, 35), (1, 34), (1, 36), (1, 6)] [zR 1, zI 4] h0_X9_modularOf_50 (zI 4294967296) h1_X9_modularOf_50
theorem mg_X9_modularOf_50 {d : Nat} : zMet (d := d) X_X9_modularOf yX9_modularOf 19 g_X9_modularOf_50 := zMet_smM m_X9_modularOfa ev_X9_modularOf_50
noncomputable def zk_99_zs1_99_n00_X9_modularOf_43 : zT 2 := @Prod.mk (zT 1) (zT 1) ((25, 63, bg_396), (0, 11, bg_143)) ((0, 11, bg_135), (0, 456, bg_37))
noncomputable def h0_X9_modularOf_51 : zH 5 := (show zT 5 from (((zk_99_zs1_99_n00_X9_modularOf_43, zk_99_zs1_99_n00_X9_modularOf_37), zk_99_zs1_99_n00_X9_modularOf_41), (((((0, 11, bg_393), (0, 0, 0)), zO1), zO2), zO3)), (17, (0, 0)))
noncomputable def h1_X9_modularOf_51 : zH 5 := (show zT 5 from (((zk_99_zs1_99_n00_X9_modularOf_43, zk_99_zs1_99_n00_X9_modularOf_39), zk_99_zs1_99_n00_X9_modularOf_41), (((((0, 11, bg_393), (0, 0, 0)), zO1), zO2), zO3)), (17, (0, 0)))
theorem ev_X9_modularOf_51 : f_X9_modularOfa [zR 1, zI 0] h0_X9_modularOf_51 (zrk (zI 4294967296) h1_X9_modularOf_51) = true := by decide +kernel
noncomputable def g_X9_modularOf_51 {d : Nat} : List zV → zH d → zP d → Bool := zsmyM [(0, 0), (1, 21), (1, 20), (1, 22), (1, 33), (1, 3), (1, 31), (1, 32), (1, 26), (1, 27), (1, 4), (1, 29), (1, 30), (1, 35), (1, 34), (1, 36), (1, 6)] [zR 1, zI 0] h0_X9_modularOf_51 (zI 4294967296) h1_X9_modularOf_51
theorem mg_X9_modularOf_51 {d : Nat} : zMet (d := d) X_X9_modularOf yX9_modularOf 19 g_X9_modularOf_51 := zMet_smM m_X9_modularOfa ev_X9_modularOf_51
noncomputable def h0_X9_modularOf_52 : zH 5 := (show zT 5 from (((zk_99_zs1_99_n00_X9_modularOf_43, zk_99_zs1_99_n00_X9_modularOf_37), zk_99_zs1_99_n00_X9_modularOf_41), (((((0, 11, bg_393), (0, 0, 0)), zO1), zO2), zO3)), (17, (0, 0)))
noncomputable def h1_X9_modularOf_52 : zH 5 := (show zT 5 from (((zk_99_zs1_99_n00_X9_modularOf_43, zk_99_zs1_99_n00_X9_modularOf_39), zk_99_zs1_99_n00_X9_modularOf_41), (((((0, 11, bg_393), (0, 0, 0)), zO1), zO2), zO3)), (17, (0, 0)))
theorem ev_X9_modularOf_52 : f_X9_modularOfa [zR 1, zI 2] h0_X9_modularOf_52 (zrk (zI 4294967296) h1_X9_modularOf_52) = true := by decide +kernel
noncomputable def g_X9_modularOf_52 {d : Nat} : List zV → zH d → zP d → Bool := zsmyM [(0, 0), (1, 21), (1, 20), (1, 22), (1, 33), (1, 3), (1, 31), (1, 32), (1, 26), (1, 27), (1, 4), (1, 29), (1, 30), (1, 35), (1, 34), (1, 36), (1, 6)] [zR 1, zI 2] h0_X9_modularOf_52 (zI 4294967296) h1_X9_modularOf_52
theorem mg_X9_modularOf_52 {d : Nat} : zMet (d := d) X_X9_modularOf yX9_modularOf 19 g_X9_modularOf_52 := zMet_smM m_X9_modularOfa ev_X9_modularOf_52
noncomputable def h0_X9_modularOf_53 : zH 5 := (show zT 5 from (((zk_99_zs1_99_n00_X9_modularOf_43, zk_99_zs1_99_n00_X9_modularOf_37), zk_99_zs1_99_n00_X9_modularOf_41), (((((0, 11, bg_393), (0, 0, 0)), zO1), zO2), zO3)), (17, (0, 0)))
noncomputable def h1_X9_modularOf_53 : zH 5 := (show zT 5 from (((zk_99_zs1_99_n00_X9_modularOf_43, zk_99_zs1_99_n00_X9_modularOf_39), zk_99_zs1_99_n00_X9_modularOf_41), (((((0, 11, bg_393), (0, 0, 0)), zO1), zO2), zO3)), (17, (0, 0)))
theorem ev_X9_modularOf_53 : f_X9_modularOfa [zR 1, zI 3] h0_X9_modularOf_53 (zrk (zI 4294967296) h1_X9_modularOf_53) = true := by decide +kernel
noncomputable def g_X9_modularOf_53 {d : Nat} : List zV → zH d → zP d → Bool := zsmyM [(0, 0), (1, 21), (1, 20), (1, 22), (1, 33), (1, 3), (1, 31), (1, 32), (1, 26), (1, 27), (1, 4), (1, 29), (1, 30), (1, 35), (1, 34), (1, 36), (1, 6)] [zR 1, zI 3] h0_X9_modularOf_53 (zI 4294967296) h1_X9_modularOf_53
theorem mg_X9_modularOf_53 {d : Nat} : zMet (d := d) X_X9_modularOf yX9_modularOf 19 g_X9_modularOf_53 := zMet_smM m_X9_modularOfa ev_X9_modularOf_53
noncomputable def h0_X9_modularOf_54 : zH 5 := (show zT 5 from (((zk_99_zs1_99_n00_X9_modularOf_43, zk_99_zs1_99_n00_X9_modularOf_37), zk_99_zs1_99_n00_X9_modularOf_41), (((((0, 11, bg_393), (0, 0, 0)), zO1), zO2), zO3)), (17, (0, 0)))
noncomputable def h1_X9_modularOf_54 : zH 5 := (show zT 5 from (((zk_99_zs1_99_n00_X9_modularOf_43, zk_99_zs1_99_n00_X9_modularOf_39), zk_99_zs1_99_n00_X9_modularOf_41), (((((0, 11, bg_393), (0, 0, 0)), zO1), zO2), zO3)), (17, (0, 0)))
theorem ev_X9_modularOf_54 : f_X9_modularOfa [zR 1, zI 4] h0_X9_modularOf_54 (zrk (zI 4294967296) h1_X9_modularOf_54) = true := by decide +kernel
noncomputable def g_X9_modularOf_54 {d : Nat} : List zV → zH d → zP d → Bool := zsmyM [(0, 0), (1, 21), (1, 20), (1, 22), (1, 33), (1, 3), (1, 31), (1, 32), (1, 26), (1, 27), (1, 4), (1, 29), (1, 30), (1, 35), (1, 34), (1, 36), (1, 6)] [zR 1, zI 4] h0_X9_modularOf_54 (zI 4294967296) h1_X9_modularOf_54
theorem mg_X9_modularOf_54 {d : Nat} : zMet (d := d) X_X9_modularOf yX9_modularOf 19 g_X9_modularOf_54 := zMet_smM m_X9_modularOfa ev_X9_modularOf_54
noncomputable def zk_99_zs1_99_n00_X9_modularOf_44 : zT 2 := @Prod.mk (zT 1) (zT 1) ((25, 63, bg_397), (0, 11, bg_145)) ((0, 11, bg_146), (0, 456, bg_40))
noncomputable def zk_99_zs1_99_n00_X9_modularOf_45 : zT 3 := @Prod.mk (zT 2) (zT 2) (((10, 46656, 18), (11, 720, 18)), ((0, 11, bg_11), (0, 12000, zun 40 12000 4294967296))) zk_99_zs1_99_n00_X9_modularOf_4
noncomputable def h0_X9_modularOf_55 : zH 5 := (show zT 5 from (((zk_99_zs1_99_n00_X9_modularOf_44, zk_99_zs1_99_n00_X9_modularOf_37), zk_99_zs1_99_n00_X9_modularOf_45), (((((0, 11, bg_393), (0, 0, 0)), zO1), zO2), zO3)), (17, (0, 0)))
noncomputable def h1_X9_modularOf_55 : zH 5 := (show zT 5 from (((zk_99_zs1_99_n00_X9_modularOf_44, zk_99_zs1_99_n00_X9_modularOf_39), zk_99_zs1_99_n00_X9_modularOf_45), (((((0, 11, bg_393), (0, 0, 0)), zO1), zO2), zO3)), (17, (0, 0)))
theorem ev_X9_modularOf_55 : f_X9_modularOfa [zR 1, zI 0] h0_X9_modularOf_55 (zrk (zI 4294967296) h1_X9_modularOf_55) = true := by decide +kernel
noncomputable def g_X9_modularOf_55 {d : Nat} : List zV → zH d → zP d → Bool := zsmyM [(0, 0), (1, 21), (1, 20), (1, 22), (1, 33), (1, 3), (1, 31), (1, 32), (1, 26), (1, 27), (1, 4), (1, 29), (1, 30), (1, 35), (1, 34), (1, 36), (1, 6)] [zR 1, zI 0] h0_X9_modularOf_55 (zI 4294967296) h1_X9_modularOf_55
theorem mg_X9_modularOf_55 {d : Nat} : zMet (d := d) X_X9_modularOf yX9_modularOf 19 g_X9_modularOf_55 := zMet_smM m_X9_modularOfa ev_X9_modularOf_55
noncomputable def h0_X9_modularOf_56 : zH 5 := (show zT 5 from (((zk_99_zs1_99_n00_X9_modularOf_44, zk_99_zs1_99_n00_X9_modularOf_37), zk_99_zs1_99_n00_X9_modularOf_45), (((((0, 11, bg_393), (0, 0, 0)), zO1), zO2), zO3)), (17, (0, 0)))
noncomputable def h1_X9_modularOf_56 : zH 5 := (show zT 5 from (((zk_99_zs1_99_n00_X9_modularOf_44, zk_99_zs1_99_n00_X9_modularOf_39), zk_99_zs1_99_n00_X9_modularOf_45), (((((0, 11, bg_393), (0, 0, 0)), zO1), zO2), zO3)), (17, (0, 0)))
theorem ev_X9_modularOf_56 : f_X9_modularOfa [zR 1, zI 2] h0_X9_modularOf_56 (zrk (zI 4294967296) h1_X9_modularOf_56) = true := by decide +kernel
noncomputable def g_X9_modularOf_56 {d : Nat} : List zV → zH d → zP d → Bool := zsmyM [(0, 0), (1, 21), (1, 20), (1, 22), (1, 33), (1, 3), (1, 31), (1, 32), (1, 26), (1, 27), (1, 4), (1, 29), (1, 30), (1, 35), (1, 34), (1, 36), (1, 6)] [zR 1, zI 2] h0_X9_modularOf_56 (zI 4294967296) h1_X9_modularOf_56
theorem mg_X9_modularOf_56 {d : Nat} : zMet (d := d) X_X9_modularOf yX9_modularOf 19 g_X9_modularOf_56 := zMet_smM m_X9_modularOfa ev_X9_modularOf_56
noncomputable def h0_X9_modularOf_57 : zH 5 := (show zT 5 from (((zk_99_zs1_99_n00_X9_modularOf_44, zk_99_zs1_99_n00_X9_modularOf_37), zk_99_zs1_99_n00_X9_modularOf_45), (((((0, 11, bg_393), (0, 0, 0)), zO1), zO2), zO3)), (17, (0, 0)))
noncomputable def h1_X9_modularOf_57 : zH 5 := (show zT 5 from (((zk_99_zs1_99_n00_X9_modularOf_44, zk_99_zs1_99_n00_X9_modularOf_39), zk_99_zs1_99_n00_X9_modularOf_45), (((((0, 11, bg_393), (0, 0, 0)), zO1), zO2), zO3)), (17, (0, 0)))
theorem ev_X9_modularOf_57 : f_X9_modularOfa [zR 1, zI 3] h0_X9_modularOf_57 (zrk (zI 4294967296) h1_X9_modularOf_57) = true := by decide +kernel
noncomputable def g_X9_modularOf_57 {d : Nat} : List zV → zH d → zP d → Bool := zsmyM [(0, 0), (1, 21), (1, 20), (1, 22), (1, 33), (1, 3), (1, 31), (1, 32), (1, 26), (1, 27), (1, 4), (1, 29), (1, 30), (1, 35), (1, 34), (1, 36), (1, 6)] [zR 1, zI 3] h0_X9_modularOf_57 (zI 4294967296) h1_X9_modularOf_57
theorem mg_X9_modularOf_57 {d : Nat} : zMet (d := d) X_X9_modularOf yX9_modularOf 19 g_X9_modularOf_57 := zMet_smM m_X9_modularOfa ev_X9_modularOf_57
noncomputable def h0_X9_modularOf_58 : zH 5 := (show zT 5 from (((zk_99_zs1_99_n00_X9_modularOf_44, zk_99_zs1_99_n00_X9_modularOf_37), zk_99_zs1_99_n00_X9_modularOf_45), (((((0, 11, bg_393), (0, 0, 0)), zO1), zO2), zO3)), (17, (0, 0)))
noncomputable def h1_X9_modularOf_58 : zH 5 := (show zT 5 from (((zk_99_zs1_99_n00_X9_modularOf_44, zk_99_zs1_99_n00_X9_modularOf_39), zk_99_zs1_99_n00_X9_modularOf_45), (((((0, 11, bg_393), (0, 0, 0)), zO1), zO2), zO3)), (17, (0, 0)))
theorem ev_X9_modularOf_58 : f_X9_modularOfa [zR 1, zI 4] h0_X9_modularOf_58 (zrk (zI 4294967296) h1_X9_modularOf_58) = true := by decide +kernel
noncomputable def g_X9_modularOf_58 {d : Nat} : List zV → zH d → zP d → Bool := zsmyM [(0, 0), (1, 21), (1, 20), (1, 22), (1, 33), (1, 3), (1, 31), (1, 32), (1, 26), (1, 27), (1, 4), (1, 29), (1, 30), (1, 35), (1, 34), (1, 36), (1, 6)] [zR 1, zI 4] h0_X9_modularOf_58 (zI 4294967296) h1_X9_modularOf_58
theorem mg_X9_modularOf_58 {d : Nat} : zMet (d := d) X_X9_modularOf yX9_modularOf 19 g_X9_modularOf_58 := zMet_smM m_X9_modularOfa ev_X9_modularOf_58
noncomputable def zk_99_zs1_99_n00_X9_modularOf_46 : zT 2 := @Prod.mk (zT 1) (zT 1) ((25, 63, bg_398), (0, 11, bg_148)) ((0, 11, bg_149), (0, 456, bg_43))
noncomputable def zk_99_zs1_99_n00_X9_modularOf_47 : zT 3 := @Prod.mk (zT 2) (zT 2) (((10, 46656, 74), (11, 720, 74)), ((0, 11, bg_11), (0, 12000, zun 40 12000 4294967296))) zk_99_zs1_99_n00_X9_modularOf_4
noncomputable def h0_X9_modularOf_59 : zH 5 := (show zT 5 from (((zk_99_zs1_99_n00_X9_modularOf_46, zk_99_zs1_99_n00_X9_modularOf_37), zk_99_zs1_99_n00_X9_modularOf_47), (((((0, 11, bg_393), (0, 0, 0)), zO1), zO2), zO3)), (17, (0, 0)))
noncomputable def h1_X9_modularOf_59 : zH 5 := (show zT 5 from (((zk_99_zs1_99_n00_X9_modularOf_46, zk_99_zs1_99_n00_X9_modularOf_39), zk_99_zs1_99_n00_X9_modularOf_47), (((((0, 11, bg_393), (0, 0, 0)), zO1), zO2), zO3)), (17, (0, 0)))
theorem ev_X9_modularOf_59 : f_X9_modularOfa [zR 1, zI 0] h0_X9_modularOf_59 (zrk (zI 4294967296) h1_X9_modularOf_59) = true := by decide +kernel
noncomputable def g_X9_modularOf_59 {d : Nat} : List zV → zH d → zP d → Bool := zsmyM [(0, 0), (1, 21), (1, 20), (1, 22), (1, 33), (1, 3), (1, 31), (1, 32), (1, 26), (1, 27), (1, 4), (1, 29), (1, 30), (1, 35), (1, 34), (1, 36), (1, 6)] [zR 1, zI 0] h0_X9_modularOf_59 (zI 4294967296) h1_X9_modularOf_59
theorem mg_X9_modularOf_59 {d : Nat} : zMet (d := d) X_X9_modularOf yX9_modularOf 19 g_X9_modularOf_59 := zMet_smM m_X9_modularOfa ev_X9_modularOf_59
noncomputable def h0_X9_modularOf_60 : zH 5 := (show zT 5 from (((zk_99_zs1_99_n00_X9_modularOf_46, zk_99_zs1_99_n00_X9_modularOf_37), zk_99_zs1_99_n00_X9_modularOf_47), (((((0, 11, bg_393), (0, 0, 0)), zO1), zO2), zO3)), (17, (0, 0)))
noncomputable def h1_X9_modularOf_60 : zH 5 := (show zT 5 from (((zk_99_zs1_99_n00_X9_modularOf_46, zk_99_zs1_99_n00_X9_modularOf_39), zk_99_zs1_99_n00_X9_modularOf_47), (((((0, 11, bg_393), (0, 0, 0)), zO1), zO2), zO3)), (17, (0, 0)))
theorem ev_X9_modularOf_60 : f_X9_modularOfa [zR 1, zI 2] h0_X9_modularOf_60 (zrk (zI 4294967296) h1_X9_modularOf_60) = true := by decide +kernel
noncomputable def g_X9_modularOf_60 {d : Nat} : List zV → zH d → zP d → Bool := zsmyM [(0, 0), (1, 21), (1, 20), (1, 22), (1, 33), (1, 3), (1, 31), (1, 32), (1, 26), (1, 27), (1, 4), (1, 29), (1, 30), (1, 35), (1, 34), (1, 36), (1, 6)] [zR 1, zI 2] h0_X9_modularOf_60 (zI 4294967296) h1_X9_modularOf_60
theorem mg_X9_modularOf_60 {d : Nat} : zMet (d := d) X_X9_modularOf yX9_modularOf 19 g_X9_modularOf_60 := zMet_smM m_X9_modularOfa ev_X9_modularOf_60
noncomputable def h0_X9_modularOf_61 : zH 5 := (show zT 5 from (((zk_99_zs1_99_n00_X9_modularOf_46, zk_99_zs1_99_n00_X9_modularOf_37), zk_99_zs1_99_n00_X9_modularOf_47), (((((0, 11, bg_393), (0, 0, 0)), zO1), zO2), zO3)), (17, (0, 0)))
noncomputable def h1_X9_modularOf_61 : zH 5 := (show zT 5 from (((zk_99_zs1_99_n00_X9_modularOf_46, zk_99_zs1_99_n00_X9_modularOf_39), zk_99_zs1_99_n00_X9_modularOf_47), (((((0, 11, bg_393), (0, 0, 0)), zO1), zO2), zO3)), (17, (0, 0)))
theorem ev_X9_modularOf_61 : f_X9_modularOfa [zR 1, zI 3] h0_X9_modularOf_61 (zrk (zI 4294967296) h1_X9_modularOf_61) = true := by decide +kernel
noncomputable def g_X9_modularOf_61 {d : Nat} : List zV → zH d → zP d → Bool := zsmyM [(0, 0), (1, 21), (1, 20), (1, 22), (1, 33), (1, 3), (1, 31), (1, 32), (1, 26), (1, 27), (1, 4), (1, 29), (1, 30), (1, 35), (1, 34), (1, 36), (1, 6)] [zR 1, zI 3] h0_X9_modularOf_61 (zI 4294967296) h1_X9_modularOf_61
theorem mg_X9_modularOf_61 {d : Nat} : zMet (d := d) X_X9_modularOf yX9_modularOf 19 g_X9_modularOf_61 := zMet_smM m_X9_modularOfa ev_X9_modularOf_61
noncomputable def h0_X9_modularOf_62 : zH 5 := (show zT 5 from (((zk_99_zs1_99_n00_X9_modularOf_46, zk_99_zs1_99_n00_X9_modularOf_37), zk_99_zs1_99_n00_X9_modularOf_47), (((((0, 11, bg_393), (0, 0, 0)), zO1), zO2), zO3)), (17, (0, 0)))
noncomputable def h1_X9_modularOf_62 : zH 5 := (show zT 5 from (((zk_99_zs1_99_n00_X9_modularOf_46, zk_99_zs1_99_n00_X9_modularOf_39), zk_99_zs1_99_n00_X9_modularOf_47), (((((0, 11, bg_393), (0, 0, 0)), zO1), zO2), zO3)), (17, (0, 0)))
theorem ev_X9_modularOf_62 : f_X9_modularOfa [zR 1, zI 4] h0_X9_modularOf_62 (zrk (zI 4294967296) h1_X9_modularOf_62) = true := by decide +kernel
noncomputable def g_X9_modularOf_62 {d : Nat} : List zV → zH d → zP d → Bool := zsmyM [(0, 0), (1, 21), (1, 20), (1, 22), (1, 33), (1, 3), (1, 31), (1, 32), (1, 26), (1, 27), (1, 4), (1, 29), (1, 30), (1, 35), (1, 34), (1, 36), (1, 6)] [zR 1, zI 4] h0_X9_modularOf_62 (zI 4294967296) h1_X9_modularOf_62
theorem mg_X9_modularOf_62 {d : Nat} : zMet (d := d) X_X9_modularOf yX9_modularOf 19 g_X9_modularOf_62 := zMet_smM m_X9_modularOfa ev_X9_modularOf_62
noncomputable def zk_99_zs1_99_n00_X9_modularOf_48 : zT 2 := @Prod.mk (zT 1) (zT 1) ((25, 63, bg_399), (0, 11, bg_8)) ((0, 11, bg_131), (0, 456, bg_34))
noncomputable def h0_X9_modularOf_63 : zH 5 := (show zT 5 from (((zk_99_zs1_99_n00_X9_modularOf_48, zk_99_zs1_99_n00_X9_modularOf_37), zk_99_zs1_99_n00_X9_modularOf_38), (((((0, 11, bg_393), (0, 0, 0)), zO1), zO2), zO3)), (17, (0, 0)))
noncomputable def h1_X9_modularOf_63 : zH 5 := (show zT 5 from (((zk_99_zs1_99_n00_X9_modularOf_48, zk_99_zs1_99_n00_X9_modularOf_39), zk_99_zs1_99_n00_X9_modularOf_38), (((((0, 11, bg_393), (0, 0, 0)), zO1), zO2), zO3)), (17, (0, 0)))
theorem ev_X9_modularOf_63 : f_X9_modularOfa [zR 1, zI 0] h0_X9_modularOf_63 (zrk (zI 4294967296) h1_X9_modularOf_63) = true := by decide +kernel
noncomputable def g_X9_modularOf_63 {d : Nat} : List zV → zH d → zP d → Bool := zsmyM [(0, 0), (1, 21), (1, 20), (1, 22), (1, 33), (1, 3), (1, 31), (1, 32), (1, 26), (1, 27), (1, 4), (1, 29), (1, 30), (1, 35), (1, 34), (1, 36), (1, 6)] [zR 1, zI 0] h0_X9_modularOf_63 (zI 4294967296) h1_X9_modularOf_63
theorem mg_X9_modularOf_63 {d : Nat} : zMet (d := d) X_X9_modularOf yX9_modularOf 19 g_X9_modularOf_63 := zMet_smM m_X9_modularOfa ev_X9_modularOf_63
noncomputable def h0_X9_modularOf_64 : zH 5 := (show zT 5 from (((zk_99_zs1_99_n00_X9_modularOf_48, zk_99_zs1_99_n00_X9_modularOf_37), zk_99_zs1_99_n00_X9_modularOf_38), (((((0, 11, bg_393), (0, 0, 0)), zO1), zO2), zO3)), (17, (0, 0)))
noncomputable def h1_X9_modularOf_64 : zH 5 := (show zT 5 from (((zk_99_zs1_99_n00_X9_modularOf_48, zk_99_zs1_99_n00_X9_modularOf_39), zk_99_zs1_99_n00_X9_modularOf_38), (((((0, 11, bg_393), (0, 0, 0)), zO1), zO2), zO3)), (17, (0, 0)))
theorem ev_X9_modularOf_64 : f_X9_modularOfa [zR 1, zI 1] h0_X9_modularOf_64 (zrk (zI 4294967296) h1_X9_modularOf_64) = true := by decide +kernel
noncomputable def g_X9_modularOf_64 {d : Nat} : List zV → zH d → zP d → Bool := zsmyM [(0, 0), (1, 21), (1, 20), (1, 22), (1, 33), (1, 3), (1, 31), (1, 32), (1, 26), (1, 27), (1, 4), (1, 29), (1, 30), (1, 35), (1, 34), (1, 36), (1, 6)] [zR 1, zI 1] h0_X9_modularOf_64 (zI 4294967296) h1_X9_modularOf_64
theorem mg_X9_modularOf_64 {d : Nat} : zMet (d := d) X_X9_modularOf yX9_modularOf 19 g_X9_modularOf_64 := zMet_smM m_X9_modularOfa ev_X9_modularOf_64
noncomputable def h0_X9_modularOf_65 : zH 5 := (show zT 5 from (((zk_99_zs1_99_n00_X9_modularOf_48, zk_99_zs1_99_n00_X9_modularOf_37), zk_99_zs1_99_n00_X9_modularOf_38), (((((0, 11, bg_393), (0, 0, 0)), zO1), zO2), zO3)), (17, (0, 0)))
noncomputable def h1_X9_modularOf_65 : zH 5 := (show zT 5 from (((zk_99_zs1_99_n00_X9_modularOf_48, zk_99_zs1_99_n00_X9_modularOf_39), zk_99_zs1_99_n00_X9_modularOf_38), (((((0, 11, bg_393), (0, 0, 0)), zO1), zO2), zO3)), (17, (0, 0)))
theorem ev_X9_modularOf_65 : f_X9_modularOfa [zR 1, zI 2] h0_X9_modularOf_65 (zrk (zI 4294967296) h1_X9_modularOf_65) = true := by decide +kernel
noncomputable def g_X9_modularOf_65 {d : Nat} : List zV → zH d → zP d → Bool := zsmyM [(0, 0), (1, 21), (1, 20), (1, 22), (1, 33), (1, 3), (1, 31), (1, 32), (1, 26), (1, 27), (1, 4), (1, 29), (1, 30), (1, 35), (1, 34), (1, 36), (1, 6)] [zR 1, zI 2] h0_X9_modularOf_65 (zI 4294967296) h1_X9_modularOf_65
theorem mg_X9_modularOf_65 {d : Nat} : zMet (d := d) X_X9_modularOf yX9_modularOf 19 g_X9_modularOf_65 := zMet_smM m_X9_modularOfa ev_X9_modularOf_65
noncomputable def h0_X9_modularOf_66 : zH 5 := (show zT 5 from (((zk_99_zs1_99_n00_X9_modularOf_48, zk_99_zs1_99_n00_X9_modularOf_37), zk_99_zs1_99_n00_X9_modularOf_38), (((((0, 11, bg_393), (0, 0, 0)), zO1), zO2), zO3)), (17, (0, 0)))
noncomputable def h1_X9_modularOf_66 : zH 5 := (show zT 5 from (((zk_99_zs1_99_n00_X9_modularOf_48, zk_99_zs1_99_n00_X9_modularOf_39), zk_99_zs1_99_n00_X9_modularOf_38), (((((0, 11, bg_393), (0, 0, 0)), zO1), zO2), zO3)), (17, (0, 0)))
theorem ev_X9_modularOf_66 : f_X9_modularOfa [zR 1, zI 3] h0_X9_modularOf_66 (zrk (zI 4294967296) h1_X9_modularOf_66) = true := by decide +kernel
noncomputable def g_X9_modularOf_66 {d : Nat} : List zV → zH d → zP d → Bool := zsmyM [(0, 0), (1, 21), (1, 20), (1, 22), (1, 33), (1, 3), (1, 31), (1, 32), (1, 26), (1, 27), (1, 4), (1, 29), (1, 30), (1, 35), (1, 34), (1, 36), (1, 6)] [zR 1, zI 3] h0_X9_modularOf_66 (zI 4294967296) h1_X9_modularOf_66
theorem mg_X9_modularOf_66 {d : Nat} : zMet (d := d) X_X9_modularOf yX9_modularOf 19 g_X9_modularOf_66 := zMet_smM m_X9_modularOfa ev_X9_modularOf_66
noncomputable def h0_X9_modularOf_67 : zH 5 := (show zT 5 from (((zk_99_zs1_99_n00_X9_modularOf_48, zk_99_zs1_99_n00_X9_modularOf_37), zk_99_zs1_99_n00_X9_modularOf_38), (((((0, 11, bg_393), (0, 0, 0)), zO1), zO2), zO3)), (17, (0, 0)))
noncomputable def h1_X9_modularOf_67 : zH 5 := (show zT 5 from (((zk_99_zs1_99_n00_X9_modularOf_48, zk_99_zs1_99_n00_X9_modularOf_39), zk_99_zs1_99_n00_X9_modularOf_38), (((((0, 11, bg_393), (0, 0, 0)), zO1), zO2), zO3)), (17, (0, 0)))
theorem ev_X9_modularOf_67 : f_X9_modularOfa [zR 1, zI 4] h0_X9_modularOf_67 (zrk (zI 4294967296) h1_X9_modularOf_67) = true := by decide +kernel
noncomputable def g_X9_modularOf_67 {d : Nat} : List zV → zH d → zP d → Bool := zsmyM [(0, 0), (1, 21), (1, 20), (1, 22), (1, 33), (1, 3), (1, 31), (1, 32), (1, 26), (1, 27), (1, 4), (1, 29), (1, 30), (1, 35), (1, 34), (1, 36), (1, 6)] [zR 1, zI 4] h0_X9_modularOf_67 (zI 4294967296) h1_X9_modularOf_67
theorem mg_X9_modularOf_67 {d : Nat} : zMet (d := d) X_X9_modularOf yX9_modularOf 19 g_X9_modularOf_67 := zMet_smM m_X9_modularOfa ev_X9_modularOf_67
noncomputable def zk_99_zs1_99_n00_X9_modularOf_49 : zT 2 := @Prod.mk (zT 1) (zT 1) ((25, 63, bg_400), (0, 11, bg_143)) ((0, 11, bg_135), (0, 456, bg_37))
noncomputable def h0_X9_modularOf_68 : zH 5 := (show zT 5 from (((zk_99_zs1_99_n00_X9_modularOf_49, zk_99_zs1_99_n00_X9_modularOf_37), zk_99_zs1_99_n00_X9_modularOf_41), (((((0, 11, bg_393), (0, 0, 0)), zO1), zO2), zO3)), (17, (0, 0)))
noncomputable def h1_X9_modularOf_68 : zH 5 := (show zT 5 from (((zk_99_zs1_99_n00_X9_modularOf_49, zk_99_zs1_99_n00_X9_modularOf_39), zk_99_zs1_99_n00_X9_modularOf_41), (((((0, 11, bg_393), (0, 0, 0)), zO1), zO2), zO3)), (17, (0, 0)))
theorem ev_X9_modularOf_68 : f_X9_modularOfa [zR 1, zI 0] h0_X9_modularOf_68 (zrk (zI 4294967296) h1_X9_modularOf_68) = true := by decide +kernel
noncomputable def g_X9_modularOf_68 {d : Nat} : List zV → zH d → zP d → Bool := zsmyM [(0, 0), (1, 21), (1, 20), (1, 22), (1, 33), (1, 3), (1, 31), (1, 32), (1, 26), (1, 27), (1, 4), (1, 29), (1, 30), (1, 35), (1, 34), (1, 36), (1, 6)] [zR 1, zI 0] h0_X9_modularOf_68 (zI 4294967296) h1_X9_modularOf_68
theorem mg_X9_modularOf_68 {d : Nat} : zMet (d := d) X_X9_modularOf yX9_modularOf 19 g_X9_modularOf_68 := zMet_smM m_X9_modularOfa ev_X9_modularOf_68
noncomputable def h0_X9_modularOf_69 : zH 5 := (show zT 5 from (((zk_99_zs1_99_n00_X9_modularOf_49, zk_99_zs1_99_n00_X9_modularOf_37), zk_99_zs1_99_n00_X9_modularOf_41), (((((0, 11, bg_393), (0, 0, 0)), zO1), zO2), zO3)), (17, (0, 0)))
noncomputable def h1_X9_modularOf_69 : zH 5 := (show zT 5 from (((zk_99_zs1_99_n00_X9_modularOf_49, zk_99_zs1_99_n00_X9_modularOf_39), zk_99_zs1_99_n00_X9_modularOf_41), (((((0, 11, bg_393), (0, 0, 0)), zO1), zO2), zO3)), (17, (0, 0)))
theorem ev_X9_modularOf_69 : f_X9_modularOfa [zR 1, zI 1] h0_X9_modularOf_69 (zrk (zI 4294967296) h1_X9_modularOf_69) = true := by decide +kernel
noncomputable def g_X9_modularOf_69 {d : Nat} : List zV → zH d → zP d → Bool := zsmyM [(0, 0), (1, 21), (1, 20), (1, 22), (1, 33), (1, 3), (1, 31), (1, 32), (1, 26), (1, 27), (1, 4), (1, 29), (1, 30), (1, 35), (1, 34), (1, 36), (1, 6)] [zR 1, zI 1] h0_X9_modularOf_69 (zI 4294967296) h1_X9_modularOf_69
theorem mg_X9_modularOf_69 {d : Nat} : zMet (d := d) X_X9_modularOf yX9_modularOf 19 g_X9_modularOf_69 := zMet_smM m_X9_modularOfa ev_X9_modularOf_69
noncomputable def h0_X9_modularOf_70 : zH 5 := (show zT 5 from (((zk_99_zs1_99_n00_X9_modularOf_49, zk_99_zs1_99_n00_X9_modularOf_37), zk_99_zs1_99_n00_X9_modularOf_41), (((((0, 11, bg_393), (0, 0, 0)), zO1), zO2), zO3)), (17, (0, 0)))
noncomputable def h1_X9_modularOf_70 : zH 5 := (show zT 5 from (((zk_99_zs1_99_n00_X9_modularOf_49, zk_99_zs1_99_n00_X9_modularOf_39), zk_99_zs1_99_n00_X9_modularOf_41), (((((0, 11, bg_393), (0, 0, 0)), zO1), zO2), zO3)), (17, (0, 0)))
theorem ev_X9_modularOf_70 : f_X9_modularOfa [zR 1, zI 2] h0_X9_modularOf_70 (zrk (zI 4294967296) h1_X9_modularOf_70) = true := by decide +kernel
noncomputable def g_X9_modularOf_70 {d : Nat} : List zV → zH d → zP d → Bool := zsmyM [(0, 0), (1, 21), (1, 20), (1, 22), (1, 33), (1, 3), (1, 31), (1, 32), (1, 26), (1, 27), (1, 4), (1, 29), (1, 30), (1, 35), (1, 34), (1, 36), (1, 6)] [zR 1, zI 2] h0_X9_modularOf_70 (zI 4294967296) h1_X9_modularOf_70
theorem mg_X9_modularOf_70 {d : Nat} : zMet (d := d) X_X9_modularOf yX9_modularOf 19 g_X9_modularOf_70 := zMet_smM m_X9_modularOfa ev_X9_modularOf_70
noncomputable def h0_X9_modularOf_71 : zH 5 := (show zT 5 from (((zk_99_zs1_99_n00_X9_modularOf_49, zk_99_zs1_99_n00_X9_modularOf_37), zk_99_zs1_99_n00_X9_modularOf_41), (((((0, 11, bg_393), (0, 0, 0)), zO1), zO2), zO3)), (17, (0, 0)))
noncomputable def h1_X9_modularOf_71 : zH 5 := (show zT 5 from (((zk_99_zs1_99_n00_X9_modularOf_49, zk_99_zs1_99_n00_X9_modularOf_39), zk_99_zs1_99_n00_X9_modularOf_41), (((((0, 11, bg_393), (0, 0, 0)), zO1), zO2), zO3)), (17, (0, 0)))
theorem ev_X9_modularOf_71 : f_X9_modularOfa [zR 1, zI 3] h0_X9_modularOf_71 (zrk (zI 4294967296) h1_X9_modularOf_71) = true := by decide +kernel
noncomputable def g_X9_modularOf_71 {d : Nat} : List zV → zH d → zP d → Bool := zsmyM [(0, 0), (1, 21), (1, 20), (1, 22), (1, 33), (1, 3), (1, 31), (1, 32), (1, 26), (1, 27), (1, 4), (1, 29), (1, 30), (1, 35), (1, 34), (1, 36), (1, 6)] [zR 1, zI 3] h0_X9_modularOf_71 (zI 4294967296) h1_X9_modularOf_71
theorem mg_X9_modularOf_71 {d : Nat} : zMet (d := d) X_X9_modularOf yX9_modularOf 19 g_X9_modularOf_71 := zMet_smM m_X9_modularOfa ev_X9_modularOf_71
noncomputable def h0_X9_modularOf_72 : zH 5 := (show zT 5 from (((zk_99_zs1_99_n00_X9_modularOf_49, zk_99_zs1_99_n00_X9_modularOf_37), zk_99_zs1_99_n00_X9_modularOf_41), (((((0, 11, bg_393), (0, 0, 0)), zO1), zO2), zO3)), (17, (0, 0)))
noncomputable def h1_X9_modularOf_72 : zH 5 := (show zT 5 from (((zk_99_zs1_99_n00_X9_modularOf_49, zk_99_zs1_99_n00_X9_modularOf_39), zk_99_zs1_99_n00_X9_modularOf_41), (((((0, 11, bg_393), (0, 0, 0)), zO1), zO2), zO3)), (17, (0, 0)))
theorem ev_X9_modularOf_72 : f_X9_modularOfa [zR 1, zI 4] h0_X9_modularOf_72 (zrk (zI 4294967296) h1_X9_modularOf_72) = true := by decide +kernel
noncomputable def g_X9_modularOf_72 {d : Nat} : List zV → zH d → zP d → Bool := zsmyM [(0, 0), (1, 21), (1, 20), (1, 22), (1, 33), (1, 3), (1, 31), (1, 32), (1, 26), (1, 27), (1, 4), (1, 29), (1, 30), (1, 35), (1, 34), (1, 36), (1, 6)] [zR 1, zI 4] h0_X9_modularOf_72 (zI 4294967296) h1_X9_modularOf_72
theorem mg_X9_modularOf_72 {d : Nat} : zMet (d := d) X_X9_modularOf yX9_modularOf 19 g_X9_modularOf_72 := zMet_smM m_X9_modularOfa ev_X9_modularOf_72
noncomputable def zk_99_zs1_99_n00_X9_modularOf_50 : zT 2 := @Prod.mk (zT 1) (zT 1) ((25, 63, bg_401), (0, 11, bg_145)) ((0, 11, bg_146), (0, 456, bg_40))
noncomputable def h0_X9_modularOf_73 : zH 5 := (show zT 5 from (((zk_99_zs1_99_n00_X9_modularOf_50, zk_99_zs1_99_n00_X9_modularOf_37), zk_99_zs1_99_n00_X9_modularOf_45), (((((0, 11, bg_393), (0, 0, 0)), zO1), zO2), zO3)), (17, (0, 0)))
noncomputable def h1_X9_modularOf_73 : zH 5 := (show zT 5 from (((zk_99_zs1_99_n00_X9_modularOf_50, zk_99_zs1_99_n00_X9_modularOf_39), zk_99_zs1_99_n00_X9_modularOf_45), (((((0, 11, bg_393), (0, 0, 0)), zO1), zO2), zO3)), (17, (0, 0)))
theorem ev_X9_modularOf_73 : f_X9_modularOfa [zR 1, zI 0] h0_X9_modularOf_73 (zrk (zI 4294967296) h1_X9_modularOf_73) = true := by decide +kernel
noncomputable def g_X9_modularOf_73 {d : Nat} : List zV → zH d → zP d → Bool := zsmyM [(0, 0), (1, 21), (1, 20), (1, 22), (1, 33), (1, 3), (1, 31), (1, 32), (1, 26), (1, 27), (1, 4), (1, 29), (1, 30), (1, 35), (1, 34), (1, 36), (1, 6)] [zR 1, zI 0] h0_X9_modularOf_73 (zI 4294967296) h1_X9_modularOf_73
theorem mg_X9_modularOf_73 {d : Nat} : zMet (d := d) X_X9_modularOf yX9_modularOf 19 g_X9_modularOf_73 := zMet_smM m_X9_modularOfa ev_X9_modularOf_73
noncomputable def h0_X9_modularOf_74 : zH 5 := (show zT 5 from (((zk_99_zs1_99_n00_X9_modularOf_50, zk_99_zs1_99_n00_X9_modularOf_37), zk_99_zs1_99_n00_X9_modularOf_45), (((((0, 11, bg_393), (0, 0, 0)), zO1), zO2), zO3)), (17, (0, 0)))
noncomputable def h1_X9_modularOf_74 : zH 5 := (show zT 5 from (((zk_99_zs1_99_n00_X9_modularOf_50, zk_99_zs1_99_n00_X9_modularOf_39), zk_99_zs1_99_n00_X9_modularOf_45), (((((0, 11, bg_393), (0, 0, 0)), zO1), zO2), zO3)), (17, (0, 0)))
theorem ev_X9_modularOf_74 : f_X9_modularOfa [zR 1, zI 1] h0_X9_modularOf_74 (zrk (zI 4294967296) h1_X9_modularOf_74) = true := by decide +kernel
noncomputable def g_X9_modularOf_74 {d : Nat} : List zV → zH d → zP d → Bool := zsmyM [(0, 0), (1, 21), (1, 20), (1, 22), (1, 33), (1, 3), (1, 31), (1, 32), (1, 26), (1, 27), (1, 4), (1, 29), (1, 30), (1, 35), (1, 34), (1, 36), (1, 6)] [zR 1, zI 1] h0_X9_modularOf_74 (zI 4294967296) h1_X9_modularOf_74
theorem mg_X9_modularOf_74 {d : Nat} : zMet (d := d) X_X9_modularOf yX9_modularOf 19 g_X9_modularOf_74 := zMet_smM m_X9_modularOfa ev_X9_modularOf_74
noncomputable def h0_X9_modularOf_75 : zH 5 := (show zT 5 from (((zk_99_zs1_99_n00_X9_modularOf_50, zk_99_zs1_99_n00_X9_modularOf_37), zk_99_zs1_99_n00_X9_modularOf_45), (((((0, 11, bg_393), (0, 0, 0)), zO1), zO2), zO3)), (17, (0, 0)))
noncomputable def h1_X9_modularOf_75 : zH 5 := (show zT 5 from (((zk_99_zs1_99_n00_X9_modularOf_50, zk_99_zs1_99_n00_X9_modularOf_39), zk_99_zs1_99_n00_X9_modularOf_45), (((((0, 11, bg_393), (0, 0, 0)), zO1), zO2), zO3)), (17, (0, 0)))
theorem ev_X9_modularOf_75 : f_X9_modularOfa [zR 1, zI 2] h0_X9_modularOf_75 (zrk (zI 4294967296) h1_X9_modularOf_75) = true := by decide +kernel
noncomputable def g_X9_modularOf_75 {d : Nat} : List zV → zH d → zP d → Bool := zsmyM [(0, 0), (1, 21), (1, 20), (1, 22), (1, 33), (1, 3), (1, 31), (1, 32), (1, 26), (1, 27), (1, 4), (1, 29), (1, 30), (1, 35), (1, 34), (1, 36), (1, 6)] [zR 1, zI 2] h0_X9_modularOf_75 (zI 4294967296) h1_X9_modularOf_75
theorem mg_X9_modularOf_75 {d : Nat} : zMet (d := d) X_X9_modularOf yX9_modularOf 19 g_X9_modularOf_75 := zMet_smM m_X9_modularOfa ev_X9_modularOf_75
noncomputable def h0_X9_modularOf_76 : zH 5 := (show zT 5 from (((zk_99_zs1_99_n00_X9_modularOf_50, zk_99_zs1_99_n00_X9_modularOf_37), zk_99_zs1_99_n00_X9_modularOf_45), (((((0, 11, bg_393), (0, 0, 0)), zO1), zO2), zO3)), (17, (0, 0)))
noncomputable def h1_X9_modularOf_76 : zH 5 := (show zT 5 from (((zk_99_zs1_99_n00_X9_modularOf_50, zk_99_zs1_99_n00_X9_modularOf_39), zk_99_zs1_99_n00_X9_modularOf_45), (((((0, 11, bg_393), (0, 0, 0)), zO1), zO2), zO3)), (17, (0, 0)))
theorem ev_X9_modularOf_76 : f_X9_modularOfa [zR 1, zI 3] h0_X9_modularOf_76 (zrk (zI 4294967296) h1_X9_modularOf_76) = true := by decide +kernel
noncomputable def g_X9_modularOf_76 {d : Nat} : List zV → zH d → zP d → Bool := zsmyM [(0, 0), (1, 21), (1, 20), (1, 22), (1, 33), (1, 3), (1, 31), (1, 32), (1, 26), (1, 27), (1, 4), (1, 29), (1, 30), (1, 35), (1, 34), (1, 36), (1, 6)] [zR 1, zI 3] h0_X9_modularOf_76 (zI 4294967296) h1_X9_modularOf_76
theorem mg_X9_modularOf_76 {d : Nat} : zMet (d := d) X_X9_modularOf yX9_modularOf 19 g_X9_modularOf_76 := zMet_smM m_X9_modularOfa ev_X9_modularOf_76
noncomputable def h0_X9_modularOf_77 : zH 5 := (show zT 5 from (((zk_99_zs1_99_n00_X9_modularOf_50, zk_99_zs1_99_n00_X9_modularOf_37), zk_99_zs1_99_n00_X9_modularOf_45), (((((0, 11, bg_393), (0, 0, 0)), zO1), zO2), zO3)), (17, (0, 0)))
noncomputable def h1_X9_modularOf_77 : zH 5 := (show zT 5 from (((zk_99_zs1_99_n00_X9_modularOf_50, zk_99_zs1_99_n00_X9_modularOf_39), zk_99_zs1_99_n00_X9_modularOf_45), (((((0, 11, bg_393), (0, 0, 0)), zO1), zO2), zO3)), (17, (0, 0)))
theorem ev_X9_modularOf_77 : f_X9_modularOfa [zR 1, zI 4] h0_X9_modularOf_77 (zrk (zI 4294967296) h1_X9_modularOf_77) = true := by decide +kernel
noncomputable def g_X9_modularOf_77 {d : Nat} : List zV → zH d → zP d → Bool := zsmyM [(0, 0), (1, 21), (1, 20), (1, 22), (1, 33), (1, 3), (1, 31), (1, 32), (1, 26), (1, 27), (1, 4), (1, 29), (1, 30), (1, 35), (1, 34), (1, 36), (1, 6)] [zR 1, zI 4] h0_X9_modularOf_77 (zI 4294967296) h1_X9_modularOf_77
theorem mg_X9_modularOf_77 {d : Nat} : zMet (d := d) X_X9_modularOf yX9_modularOf 19 g_X9_modularOf_77 := zMet_smM m_X9_modularOfa ev_X9_modularOf_77
noncomputable def zk_99_zs1_99_n00_X9_modularOf_51 : zT 2 := @Prod.mk (zT 1) (zT 1) ((25, 63, bg_402), (0, 11, bg_148)) ((0, 11, bg_149), (0, 456, bg_43))
noncomputable def h0_X9_modularOf_78 : zH 5 := (show zT 5 from (((zk_99_zs1_99_n00_X9_modularOf_51, zk_99_zs1_99_n00_X9_modularOf_37), zk_99_zs1_99_n00_X9_modularOf_47), (((((0, 11, bg_393), (0, 0, 0)), zO1), zO2), zO3)), (17, (0, 0)))
noncomputable def h1_X9_modularOf_78 : zH 5 := (show zT 5 from (((zk_99_zs1_99_n00_X9_modularOf_51, zk_99_zs1_99_n00_X9_modularOf_39), zk_99_zs1_99_n00_X9_modularOf_47), (((((0, 11, bg_393), (0, 0, 0)), zO1), zO2), zO3)), (17, (0, 0)))
theorem ev_X9_modularOf_78 : f_X9_modularOfa [zR 1, zI 0] h0_X9_modularOf_78 (zrk (zI 4294967296) h1_X9_modularOf_78) = true := by decide +kernel
noncomputable def g_X9_modularOf_78 {d : Nat} : List zV → zH d → zP d → Bool := zsmyM [(0, 0), (1, 21), (1, 20), (1, 22), (1, 33), (1, 3), (1, 31), (1, 32), (1, 26), (1, 27), (1, 4), (1, 29), (1, 30), (1, 35), (1, 34), (1, 36), (1, 6)] [zR 1, zI 0] h0_X9_modularOf_78 (zI 4294967296) h1_X9_modularOf_78
theorem mg_X9_modularOf_78 {d : Nat} : zMet (d := d) X_X9_modularOf yX9_modularOf 19 g_X9_modularOf_78 := zMet_smM m_X9_modularOfa ev_X9_modularOf_78
noncomputable def h0_X9_modularOf_79 : zH 5 := (show zT 5 from (((zk_99_zs1_99_n00_X9_modularOf_51, zk_99_zs1_99_n00_X9_modularOf_37), zk_99_zs1_99_n00_X9_modularOf_47), (((((0, 11, bg_393), (0, 0, 0)), zO1), zO2), zO3)), (17, (0, 0)))
noncomputable def h1_X9_modularOf_79 : zH 5 := (show zT 5 from (((zk_99_zs1_99_n00_X9_modularOf_51, zk_99_zs1_99_n00_X9_modularOf_39), zk_99_zs1_99_n00_X9_modularOf_47), (((((0, 11, bg_393), (0, 0, 0)), zO1), zO2), zO3)), (17, (0, 0)))
theorem ev_X9_modularOf_79 : f_X9_modularOfa [zR 1, zI 1] h0_X9_modularOf_79 (zrk (zI 4294967296) h1_X9_modularOf_79) = true := by decide +kernel
noncomputable def g_X9_modularOf_79 {d : Nat} : List zV → zH d → zP d → Bool := zsmyM [(0, 0), (1, 21), (1, 20), (1, 22), (1, 33), (1, 3), (1, 31), (1, 32), (1, 26), (1, 27), (1, 4), (1, 29), (1, 30), (1, 35), (1, 34), (1, 36), (1, 6)] [zR 1, zI 1] h0_X9_modularOf_79 (zI 4294967296) h1_X9_modularOf_79
theorem mg_X9_modularOf_79 {d : Nat} : zMet (d := d) X_X9_modularOf yX9_modularOf 19 g_X9_modularOf_79 := zMet_smM m_X9_modularOfa ev_X9_modularOf_79
noncomputable def h0_X9_modularOf_80 : zH 5 := (show zT 5 from (((zk_99_zs1_99_n00_X9_modularOf_51, zk_99_zs1_99_n00_X9_modularOf_37), zk_99_zs1_99_n00_X9_modularOf_47), (((((0, 11, bg_393), (0, 0, 0)), zO1), zO2), zO3)), (17, (0, 0)))
noncomputable def h1_X9_modularOf_80 : zH 5 := (show zT 5 from (((zk_99_zs1_99_n00_X9_modularOf_51, zk_99_zs1_99_n00_X9_modularOf_39), zk_99_zs1_99_n00_X9_modularOf_47), (((((0, 11, bg_393), (0, 0, 0)), zO1), zO2), zO3)), (17, (0, 0)))
theorem ev_X9_modularOf_80 : f_X9_modularOfa [zR 1, zI 2] h0_X9_modularOf_80 (zrk (zI 4294967296) h1_X9_modularOf_80) = true := by decide +kernel
noncomputable def g_X9_modularOf_80 {d : Nat} : List zV → zH d → zP d → Bool := zsmyM [(0, 0), (1, 21), (1, 20), (1, 22), (1, 33), (1, 3), (1, 31), (1, 32), (1, 26), (1, 27), (1, 4), (1, 29), (1, 30), (1, 35), (1, 34), (1, 36), (1, 6)] [zR 1, zI 2] h0_X9_modularOf_80 (zI 4294967296) h1_X9_modularOf_80
theorem mg_X9_modularOf_80 {d : Nat} : zMet (d := d) X_X9_modularOf yX9_modularOf 19 g_X9_modularOf_80 := zMet_smM m_X9_modularOfa ev_X9_modularOf_80
noncomputable def h0_X9_modularOf_81 : zH 5 := (show zT 5 from (((zk_99_zs1_99_n00_X9_modularOf_51, zk_99_zs1_99_n00_X9_modularOf_37), zk_99_zs1_99_n00_X9_modularOf_47), (((((0, 11, bg_393), (0, 0, 0)), zO1), zO2), zO3)), (17, (0, 0)))
noncomputable def h1_X9_modularOf_81 : zH 5 := (show zT 5 from (((zk_99_zs1_99_n00_X9_modularOf_51, zk_99_zs1_99_n00_X9_modularOf_39), zk_99_zs1_99_n00_X9_modularOf_47), (((((0, 11, bg_393), (0, 0, 0)), zO1), zO2), zO3)), (17, (0, 0)))
theorem ev_X9_modularOf_81 : f_X9_modularOfa [zR 1, zI 3] h0_X9_modularOf_81 (zrk (zI 4294967296) h1_X9_modularOf_81) = true := by decide +kernel
noncomputable def g_X9_modularOf_81 {d : Nat} : List zV → zH d → zP d → Bool := zsmyM [(0, 0), (1, 21), (1, 20), (1, 22), (1, 33), (1, 3), (1, 31), (1, 32), (1, 26), (1, 27), (1, 4), (1, 29), (1, 30), (1, 35), (1, 34), (1, 36), (1, 6)] [zR 1, zI 3] h0_X9_modularOf_81 (zI 4294967296) h1_X9_modularOf_81
theorem mg_X9_modularOf_81 {d : Nat} : zMet (d := d) X_X9_modularOf yX9_modularOf 19 g_X9_modularOf_81 := zMet_smM m_X9_modularOfa ev_X9_modularOf_81
noncomputable def h0_X9_modularOf_82 : zH 5 := (show zT 5 from (((zk_99_zs1_99_n00_X9_modularOf_51, zk_99_zs1_99_n00_X9_modularOf_37), zk_99_zs1_99_n00_X9_modularOf_47), (((((0, 11, bg_393), (0, 0, 0)), zO1), zO2), zO3)), (17, (0, 0)))
noncomputable def h1_X9_modularOf_82 : zH 5 := (show zT 5 from (((zk_99_zs1_99_n00_X9_modularOf_51, zk_99_zs1_99_n00_X9_modularOf_39), zk_99_zs1_99_n00_X9_modularOf_47), (((((0, 11, bg_393), (0, 0, 0)), zO1), zO2), zO3)), (17, (0, 0)))
theorem ev_X9_modularOf_82 : f_X9_modularOfa [zR 1, zI 4] h0_X9_modularOf_82 (zrk (zI 4294967296) h1_X9_modularOf_82) = true := by decide +kernel
noncomputable def g_X9_modularOf_82 {d : Nat} : List zV → zH d → zP d → Bool := zsmyM [(0, 0), (1, 21), (1, 20), (1, 22), (1, 33), (1, 3), (1, 31), (1, 32), (1, 26), (1, 27), (1, 4), (1, 29), (1, 30), (1, 35), (1, 34), (1, 36), (1, 6)] [zR 1, zI 4] h0_X9_modularOf_82 (zI 4294967296) h1_X9_modularOf_82
theorem mg_X9_modularOf_82 {d : Nat} : zMet (d := d) X_X9_modularOf yX9_modularOf 19 g_X9_modularOf_82 := zMet_smM m_X9_modularOfa ev_X9_modularOf_82
noncomputable def zk_99_zs1_99_n00_X9_modularOf_52 : zT 2 := @Prod.mk (zT 1) (zT 1) ((25, 63, bg_403), (0, 11, bg_151)) ((0, 11, bg_152), (0, 456, bg_46))
noncomputable def zk_99_zs1_99_n00_X9_modularOf_53 : zT 3 := @Prod.mk (zT 2) (zT 2) (((10, 46656, 585), (11, 720, 585)), ((0, 11, bg_11), (0, 12000, zun 40 12000 4294967296))) zk_99_zs1_99_n00_X9_modularOf_4
noncomputable def h0_X9_modularOf_83 : zH 5 := (show zT 5 from (((zk_99_zs1_99_n00_X9_modularOf_52, zk_99_zs1_99_n00_X9_modularOf_37), zk_99_zs1_99_n00_X9_modularOf_53), (((((0, 11, bg_393), (0, 0, 0)), zO1), zO2), zO3)), (17, (0, 0)))
noncomputable def h1_X9_modularOf_83 : zH 5 := (show zT 5 from (((zk_99_zs1_99_n00_X9_modularOf_52, zk_99_zs1_99_n00_X9_modularOf_39), zk_99_zs1_99_n00_X9_modularOf_53), (((((0, 11, bg_393), (0, 0, 0)), zO1), zO2), zO3)), (17, (0, 0)))
theorem ev_X9_modularOf_83 : f_X9_modularOfa [zR 1, zI 0] h0_X9_modularOf_83 (zrk (zI 4294967296) h1_X9_modularOf_83) = true := by decide +kernel
noncomputable def g_X9_modularOf_83 {d : Nat} : List zV → zH d → zP d → Bool := zsmyM [(0, 0), (1, 21), (1, 20), (1, 22), (1, 33), (1, 3), (1, 31), (1, 32), (1, 26), (1, 27), (1, 4), (1, 29), (1, 30), (1, 35), (1, 34), (1, 36), (1, 6)] [zR 1, zI 0] h0_X9_modularOf_83 (zI 4294967296) h1_X9_modularOf_83
theorem mg_X9_modularOf_83 {d : Nat} : zMet (d := d) X_X9_modularOf yX9_modularOf 19 g_X9_modularOf_83 := zMet_smM m_X9_modularOfa ev_X9_modularOf_83
noncomputable def h0_X9_modularOf_84 : zH 5 := (show zT 5 from (((zk_99_zs1_99_n00_X9_modularOf_52, zk_99_zs1_99_n00_X9_modularOf_37), zk_99_zs1_99_n00_X9_modularOf_53), (((((0, 11, bg_393), (0, 0, 0)), zO1), zO2), zO3)), (17, (0, 0)))
noncomputable def h1_X9_modularOf_84 : zH 5 := (show zT 5 from (((zk_99_zs1_99_n00_X9_modularOf_52, zk_99_zs1_99_n00_X9_modularOf_39), zk_99_zs1_99_n00_X9_modularOf_53), (((((0, 11, bg_393), (0, 0, 0)), zO1), zO2), zO3)), (17, (0, 0)))
theorem ev_X9_modularOf_84 : f_X9_modularOfa [zR 1, zI 1] h0_X9_modularOf_84 (zrk (zI 4294967296) h1_X9_modularOf_84) = true := by decide +kernel
noncomputable def g_X9_modularOf_84 {d : Nat} : List zV → zH d → zP d → Bool := zsmyM [(0, 0), (1, 21), (1, 20), (1, 22), (1, 33), (1, 3), (1, 31), (1, 32), (1, 26), (1, 27), (1, 4), (1, 29), (1, 30), (1, 35), (1, 34), (1, 36), (1, 6)] [zR 1, zI 1] h0_X9_modularOf_84 (zI 4294967296) h1_X9_modularOf_84
theorem mg_X9_modularOf_84 {d : Nat} : zMet (d := d) X_X9_modularOf yX9_modularOf 19 g_X9_modularOf_84 := zMet_smM m_X9_modularOfa ev_X9_modularOf_84
noncomputable def h0_X9_modularOf_85 : zH 5 := (show zT 5 from (((zk_99_zs1_99_n00_X9_modularOf_52, zk_99_zs1_99_n00_X9_modularOf_37), zk_99_zs1_99_n00_X9_modularOf_53), (((((0, 11, bg_393), (0, 0, 0)), zO1), zO2), zO3)), (17, (0, 0)))
noncomputable def h1_X9_modularOf_85 : zH 5 := (show zT 5 from (((zk_99_zs1_99_n00_X9_modularOf_52, zk_99_zs1_99_n00_X9_modularOf_39), zk_99_zs1_99_n00_X9_modularOf_53), (((((0, 11, bg_393), (0, 0, 0)), zO1), zO2), zO3)), (17, (0, 0)))
theorem ev_X9_modularOf_85 : f_X9_modularOfa [zR 1, zI 2] h0_X9_modularOf_85 (zrk (zI 4294967296) h1_X9_modularOf_85) = true := by decide +kernel
noncomputable def g_X9_modularOf_85 {d : Nat} : List zV → zH d → zP d → Bool := zsmyM [(0, 0), (1, 21), (1, 20), (1, 22), (1, 33), (1, 3), (1, 31), (1, 32), (1, 26), (1, 27), (1, 4), (1, 29), (1, 30), (1, 35), (1, 34), (1, 36), (1, 6)] [zR 1, zI 2] h0_X9_modularOf_85 (zI 4294967296) h1_X9_modularOf_85
theorem mg_X9_modularOf_85 {d : Nat} : zMet (d := d) X_X9_modularOf yX9_modularOf 19 g_X9_modularOf_85 := zMet_smM m_X9_modularOfa ev_X9_modularOf_85
noncomputable def h0_X9_modularOf_86 : zH 5 := (show zT 5 from (((zk_99_zs1_99_n00_X9_modularOf_52, zk_99_zs1_99_n00_X9_modularOf_37), zk_99_zs1_99_n00_X9_modularOf_53), (((((0, 11, bg_393), (0, 0, 0)), zO1), zO2), zO3)), (17, (0, 0)))
noncomputable def h1_X9_modularOf_86 : zH 5 := (show zT 5 from (((zk_99_zs1_99_n00_X9_modularOf_52, zk_99_zs1_99_n00_X9_modularOf_39), zk_99_zs1_99_n00_X9_modularOf_53), (((((0, 11, bg_393), (0, 0, 0)), zO1), zO2), zO3)), (17, (0, 0)))
theorem ev_X9_modularOf_86 : f_X9_modularOfa [zR 1, zI 3] h0_X9_modularOf_86 (zrk (zI 4294967296) h1_X9_modularOf_86) = true := by decide +kernel
noncomputable def g_X9_modularOf_86 {d : Nat} : List zV → zH d → zP d → Bool := zsmyM [(0, 0), (1, 21), (1, 20), (1, 22), (1, 33), (1, 3), (1, 31), (1, 32), (1, 26), (1, 27), (1, 4), (1, 29), (1, 30), (1, 35), (1, 34), (1, 36), (1, 6)] [zR 1, zI 3] h0_X9_modularOf_86 (zI 4294967296) h1_X9_modularOf_86
theorem mg_X9_modularOf_86 {d : Nat} : zMet (d := d) X_X9_modularOf yX9_modularOf 19 g_X9_modularOf_86 := zMet_smM m_X9_modularOfa ev_X9_modularOf_86
noncomputable def h0_X9_modularOf_87 : zH 5 := (show zT 5 from (((zk_99_zs1_99_n00_X9_modularOf_52, zk_99_zs1_99_n00_X9_modularOf_37), zk_99_zs1_99_n00_X9_modularOf_53), (((((0, 11, bg_393), (0, 0, 0)), zO1), zO2), zO3)), (17, (0, 0)))
noncomputable def h1_X9_modularOf_87 : zH 5 := (show zT 5 from (((zk_99_zs1_99_n00_X9_modularOf_52, zk_99_zs1_99_n00_X9_modularOf_39), zk_99_zs1_99_n00_X9_modularOf_53), (((((0, 11, bg_393), (0, 0, 0)), zO1), zO2), zO3)), (17, (0, 0)))
theorem ev_X9_modularOf_87 : f_X9_modularOfa [zR 1, zI 4] h0_X9_modularOf_87 (zrk (zI 4294967296) h1_X9_modularOf_87) = true := by decide +kernel
noncomputable def g_X9_modularOf_87 {d : Nat} : List zV → zH d → zP d → Bool := zsmyM [(0, 0), (1, 21), (1, 20), (1, 22), (1, 33), (1, 3), (1, 31), (1, 32), (1, 26), (1, 27), (1, 4), (1, 29), (1, 30), (1, 35), (1, 34), (1, 36), (1, 6)] [zR 1, zI 4] h0_X9_modularOf_87 (zI 4294967296) h1_X9_modularOf_87
theorem mg_X9_modularOf_87 {d : Nat} : zMet (d := d) X_X9_modularOf yX9_modularOf 19 g_X9_modularOf_87 := zMet_smM m_X9_modularOfa ev_X9_modularOf_87
noncomputable def zk_99_zs1_99_n00_X9_modularOf_54 : zT 2 := @Prod.mk (zT 1) (zT 1) ((25, 63, bg_404), (0, 11, bg_8)) ((0, 11, bg_131), (0, 456, bg_34))
noncomputable def h0_X9_modularOf_88 : zH 5 := (show zT 5 from (((zk_99_zs1_99_n00_X9_modularOf_54, zk_99_zs1_99_n00_X9_modularOf_37), zk_99_zs1_99_n00_X9_modularOf_38), (((((0, 11, bg_393), (0, 0, 0)), zO1), zO2), zO3)), (17, (0, 0)))
noncomputable def h1_X9_modularOf_88 : zH 5 := (show zT 5 from (((zk_99_zs1_99_n00_X9_modularOf_54, zk_99_zs1_99_n00_X9_modularOf_39), zk_99_zs1_99_n00_X9_modularOf_38), (((((0, 11, bg_393), (0, 0, 0)), zO1), zO2), zO3)), (17, (0, 0)))
theorem ev_X9_modularOf_88 : f_X9_modularOfa [zR 1, zI 0] h0_X9_modularOf_88 (zrk (zI 4294967296) h1_X9_modularOf_88) = true := by decide +kernel
noncomputable def g_X9_modularOf_88 {d : Nat} : List zV → zH d → zP d → Bool := zsmyM [(0, 0), (1, 21), (1, 20), (1, 22), (1, 33), (1, 3), (1, 31), (1, 32), (1, 26), (1, 27), (1, 4), (1, 29), (1, 30), (1, 35), (1, 34), (1, 36), (1, 6)] [zR 1, zI 0] h0_X9_modularOf_88 (zI 4294967296) h1_X9_modularOf_88
theorem mg_X9_modularOf_88 {d : Nat} : zMet (d := d) X_X9_modularOf yX9_modularOf 19 g_X9_modularOf_88 := zMet_smM m_X9_modularOfa ev_X9_modularOf_88
noncomputable def h0_X9_modularOf_89 : zH 5 := (show zT 5 from (((zk_99_zs1_99_n00_X9_modularOf_54, zk_99_zs1_99_n00_X9_modularOf_37), zk_99_zs1_99_n00_X9_modularOf_38), (((((0, 11, bg_393), (0, 0, 0)), zO1), zO2), zO3)), (17, (0, 0)))
noncomputable def h1_X9_modularOf_89 : zH 5 := (show zT 5 from (((zk_99_zs1_99_n00_X9_modularOf_54, zk_99_zs1_99_n00_X9_modularOf_39), zk_99_zs1_99_n00_X9_modularOf_38), (((((0, 11, bg_393), (0, 0, 0)), zO1), zO2), zO3)), (17, (0, 0)))
theorem ev_X9_modularOf_89 : f_X9_modularOfa [zR 1, zI 1] h0_X9_modularOf_89 (zrk (zI 4294967296) h1_X9_modularOf_89) = true := by decide +kernel
noncomputable def g_X9_modularOf_89 {d : Nat} : List zV → zH d → zP d → Bool := zsmyM [(0, 0), (1, 21), (1, 20), (1, 22), (1, 33), (1, 3), (1, 31), (1, 32), (1, 26), (1, 27), (1, 4), (1, 29), (1, 30), (1, 35), (1, 34), (1, 36), (1, 6)] [zR 1, zI 1] h0_X9_modularOf_89 (zI 4294967296) h1_X9_modularOf_89
theorem mg_X9_modularOf_89 {d : Nat} : zMet (d := d) X_X9_modularOf yX9_modularOf 19 g_X9_modularOf_89 := zMet_smM m_X9_modularOfa ev_X9_modularOf_89
noncomputable def h0_X9_modularOf_90 : zH 5 := (show zT 5 from (((zk_99_zs1_99_n00_X9_modularOf_54, zk_99_zs1_99_n00_X9_modularOf_37), zk_99_zs1_99_n00_X9_modularOf_38), (((((0, 11, bg_393), (0, 0, 0)), zO1), zO2), zO3)), (17, (0, 0)))
noncomputable def h1_X9_modularOf_90 : zH 5 := (show zT 5 from (((zk_99_zs1_99_n00_X9_modularOf_54, zk_99_zs1_99_n00_X9_modularOf_39), zk_99_zs1_99_n00_X9_modularOf_38), (((((0, 11, bg_393), (0, 0, 0)), zO1), zO2), zO3)), (17, (0, 0)))
theorem ev_X9_modularOf_90 : f_X9_modularOfa [zR 1, zI 2] h0_X9_modularOf_90 (zrk (zI 4294967296) h1_X9_modularOf_90) = true := by decide +kernel
noncomputable def g_X9_modularOf_90 {d : Nat} : List zV → zH d → zP d → Bool := zsmyM [(0, 0), (1, 21), (1, 20), (1, 22), (1, 33), (1, 3), (1, 31), (1, 32), (1, 26), (1, 27), (1, 4), (1, 29), (1, 30), (1, 35), (1, 34), (1, 36), (1, 6)] [zR 1, zI 2] h0_X9_modularOf_90 (zI 4294967296) h1_X9_modularOf_90
theorem mg_X9_modularOf_90 {d : Nat} : zMet (d := d) X_X9_modularOf yX9_modularOf 19 g_X9_modularOf_90 := zMet_smM m_X9_modularOfa ev_X9_modularOf_90
noncomputable def h0_X9_modularOf_91 : zH 5 := (show zT 5 from (((zk_99_zs1_99_n00_X9_modularOf_54, zk_99_zs1_99_n00_X9_modularOf_37), zk_99_zs1_99_n00_X9_modularOf_38), (((((0, 11, bg_393), (0, 0, 0)), zO1), zO2), zO3)), (17, (0, 0)))
noncomputable def h1_X9_modularOf_91 : zH 5 := (show zT 5 from (((zk_99_zs1_99_n00_X9_modularOf_54, zk_99_zs1_99_n00_X9_modularOf_39), zk_99_zs1_99_n00_X9_modularOf_38), (((((0, 11, bg_393), (0, 0, 0)), zO1), zO2), zO3)), (17, (0, 0)))
theorem ev_X9_modularOf_91 : f_X9_modularOfa [zR 1, zI 3] h0_X9_modularOf_91 (zrk (zI 4294967296) h1_X9_modularOf_91) = true := by decide +kernel
noncomputable def g_X9_modularOf_91 {d : Nat} : List zV → zH d → zP d → Bool := zsmyM [(0, 0), (1, 21), (1, 20), (1, 22), (1, 33), (1, 3), (1, 31), (1, 32), (1, 26), (1, 27), (1, 4), (1, 29), (1, 30), (1, 35), (1, 34), (1, 36), (1, 6)] [zR 1, zI 3] h0_X9_modularOf_91 (zI 4294967296) h1_X9_modularOf_91
theorem mg_X9_modularOf_91 {d : Nat} : zMet (d := d) X_X9_modularOf yX9_modularOf 19 g_X9_modularOf_91 := zMet_smM m_X9_modularOfa ev_X9_modularOf_91
noncomputable def h0_X9_modularOf_92 : zH 5 := (show zT 5 from (((zk_99_zs1_99_n00_X9_modularOf_54, zk_99_zs1_99_n00_X9_modularOf_37), zk_99_zs1_99_n00_X9_modularOf_38), (((((0, 11, bg_393), (0, 0, 0)), zO1), zO2), zO3)), (17, (0, 0)))
noncomputable def h1_X9_modularOf_92 : zH 5 := (show zT 5 from (((zk_99_zs1_99_n00_X9_modularOf_54, zk_99_zs1_99_n00_X9_modularOf_39), zk_99_zs1_99_n00_X9_modularOf_38), (((((0, 11, bg_393), (0, 0, 0)), zO1), zO2), zO3)), (17, (0, 0)))
theorem ev_X9_modularOf_92 : f_X9_modularOfa [zR 1, zI 4] h0_X9_modularOf_92 (zrk (zI 4294967296) h1_X9_modularOf_92) = true := by decide +kernel
noncomputable def g_X9_modularOf_92 {d : Nat} : List zV → zH d → zP d → Bool := zsmyM [(0, 0), (1, 21), (1, 20), (1, 22), (1, 33), (1, 3), (1, 31), (1, 32), (1, 26), (1, 27), (1, 4), (1, 29), (1, 30), (1, 35), (1, 34), (1, 36), (1, 6)] [zR 1, zI 4] h0_X9_modularOf_92 (zI 4294967296) h1_X9_modularOf_92
theorem mg_X9_modularOf_92 {d : Nat} : zMet (d := d) X_X9_modularOf yX9_modularOf 19 g_X9_modularOf_92 := zMet_smM m_X9_modularOfa ev_X9_modularOf_92
noncomputable def zk_99_zs1_99_n00_X9_modularOf_55 : zT 2 := @Prod.mk (zT 1) (zT 1) ((25, 63, bg_405), (0, 11, bg_143)) ((0, 11, bg_135), (0, 456, bg_37))
noncomputable def h0_X9_modularOf_93 : zH 5 := (show zT 5 from (((zk_99_zs1_99_n00_X9_modularOf_55, zk_99_zs1_99_n00_X9_modularOf_37), zk_99_zs1_99_n00_X9_modularOf_41), (((((0, 11, bg_393), (0, 0, 0)), zO1), zO2), zO3)), (17, (0, 0)))
noncomputable def h1_X9_modularOf_93 : zH 5 := (show zT 5 from (((zk_99_zs1_99_n00_X9_modularOf_55, zk_99_zs1_99_n00_X9_modularOf_39), zk_99_zs1_99_n00_X9_modularOf_41), (((((0, 11, bg_393), (0, 0, 0)), zO1), zO2), zO3)), (17, (0, 0)))
theorem ev_X9_modularOf_93 : f_X9_modularOfa [zR 1, zI 0] h0_X9_modularOf_93 (zrk (zI 4294967296) h1_X9_modularOf_93) = true := by decide +kernel
noncomputable def g_X9_modularOf_93 {d : Nat} : List zV → zH d → zP d → Bool := zsmyM [(0, 0), (1, 21), (1, 20), (1, 22), (1, 33), (1, 3), (1, 31), (1, 32), (1, 26), (1, 27), (1, 4), (1, 29), (1, 30), (1, 35), (1, 34), (1, 36), (1, 6)] [zR 1, zI 0] h0_X9_modularOf_93 (zI 4294967296) h1_X9_modularOf_93
theorem mg_X9_modularOf_93 {d : Nat} : zMet (d := d) X_X9_modularOf yX9_modularOf 19 g_X9_modularOf_93 := zMet_smM m_X9_modularOfa ev_X9_modularOf_93
noncomputable def h0_X9_modularOf_94 : zH 5 := (show zT 5 from (((zk_99_zs1_99_n00_X9_modularOf_55, zk_99_zs1_99_n00_X9_modularOf_37), zk_99_zs1_99_n00_X9_modularOf_41), (((((0, 11, bg_393), (0, 0, 0)), zO1), zO2), zO3)), (17, (0, 0)))
noncomputable def h1_X9_modularOf_94 : zH 5 := (show zT 5 from (((zk_99_zs1_99_n00_X9_modularOf_55, zk_99_zs1_99_n00_X9_modularOf_39), zk_99_zs1_99_n00_X9_modularOf_41), (((((0, 11, bg_393), (0, 0, 0)), zO1), zO2), zO3)), (17, (0, 0)))
theorem ev_X9_modularOf_94 : f_X9_modularOfa [zR 1, zI 1] h0_X9_modularOf_94 (zrk (zI 4294967296) h1_X9_modularOf_94) = true := by decide +kernel
noncomputable def g_X9_modularOf_94 {d : Nat} : List zV → zH d → zP d → Bool := zsmyM [(0, 0), (1, 21), (1, 20), (1, 22), (1, 33), (1, 3), (1, 31), (1, 32), (1, 26), (1, 27), (1, 4), (1, 29), (1, 30), (1, 35), (1, 34), (1, 36), (1, 6)] [zR 1, zI 1] h0_X9_modularOf_94 (zI 4294967296) h1_X9_modularOf_94
theorem mg_X9_modularOf_94 {d : Nat} : zMet (d := d) X_X9_modularOf yX9_modularOf 19 g_X9_modularOf_94 := zMet_smM m_X9_modularOfa ev_X9_modularOf_94
noncomputable def h0_X9_modularOf_95 : zH 5 := (show zT 5 from (((zk_99_zs1_99_n00_X9_modularOf_55, zk_99_zs1_99_n00_X9_modularOf_37), zk_99_zs1_99_n00_X9_modularOf_41), (((((0, 11, bg_393), (0, 0, 0)), zO1), zO2), zO3)), (17, (0, 0)))
noncomputable def h1_X9_modularOf_95 : zH 5 := (show zT 5 from (((zk_99_zs1_99_n00_X9_modularOf_55, zk_99_zs1_99_n00_X9_modularOf_39), zk_99_zs1_99_n00_X9_modularOf_41), (((((0, 11, bg_393), (0, 0, 0)), zO1), zO2), zO3)), (17, (0, 0)))
theorem ev_X9_modularOf_95 : f_X9_modularOfa [zR 1, zI 2] h0_X9_modularOf_95 (zrk (zI 4294967296) h1_X9_modularOf_95) = true := by decide +kernel
noncomputable def g_X9_modularOf_95 {d : Nat} : List zV → zH d → zP d → Bool := zsmyM [(0, 0), (1, 21), (1, 20), (1, 22), (1, 33), (1, 3), (1, 31), (1, 32), (1, 26), (1, 27), (1, 4), (1, 29), (1, 30), (1, 35), (1, 34), (1, 36), (1, 6)] [zR 1, zI 2] h0_X9_modularOf_95 (zI 4294967296) h1_X9_modularOf_95
theorem mg_X9_modularOf_95 {d : Nat} : zMet (d := d) X_X9_modularOf yX9_modularOf 19 g_X9_modularOf_95 := zMet_smM m_X9_modularOfa ev_X9_modularOf_95
noncomputable def h0_X9_modularOf_96 : zH 5 := (show zT 5 from (((zk_99_zs1_99_n00_X9_modularOf_55, zk_99_zs1_99_n00_X9_modularOf_37), zk_99_zs1_99_n00_X9_modularOf_41), (((((0, 11, bg_393), (0, 0, 0)), zO1), zO2), zO3)), (17, (0, 0)))
noncomputable def h1_X9_modularOf_96 : zH 5 := (show zT 5 from (((zk_99_zs1_99_n00_X9_modularOf_55, zk_99_zs1_99_n00_X9_modularOf_39), zk_99_zs1_99_n00_X9_modularOf_41), (((((0, 11, bg_393), (0, 0, 0)), zO1), zO2), zO3)), (17, (0, 0)))
theorem ev_X9_modularOf_96 : f_X9_modularOfa [zR 1, zI 3] h0_X9_modularOf_96 (zrk (zI 4294967296) h1_X9_modularOf_96) = true := by decide +kernel
noncomputable def g_X9_modularOf_96 {d : Nat} : List zV → zH d → zP d → Bool := zsmyM [(0, 0), (1, 21), (1, 20), (1, 22), (1, 33), (1, 3), (1, 31), (1, 32), (1, 26), (1, 27), (1, 4), (1, 29), (1, 30), (1, 35), (1, 34), (1, 36), (1, 6)] [zR 1, zI 3] h0_X9_modularOf_96 (zI 4294967296) h1_X9_modularOf_96
theorem mg_X9_modularOf_96 {d : Nat} : zMet (d := d) X_X9_modularOf yX9_modularOf 19 g_X9_modularOf_96 := zMet_smM m_X9_modularOfa ev_X9_modularOf_96
noncomputable def h0_X9_modularOf_97 : zH 5 := (show zT 5 from (((zk_99_zs1_99_n00_X9_modularOf_55, zk_99_zs1_99_n00_X9_modularOf_37), zk_99_zs1_99_n00_X9_modularOf_41), (((((0, 11, bg_393), (0, 0, 0)), zO1), zO2), zO3)), (17, (0, 0)))
noncomputable def h1_X9_modularOf_97 : zH 5 := (show zT 5 from (((zk_99_zs1_99_n00_X9_modularOf_55, zk_99_zs1_99_n00_X9_modularOf_39), zk_99_zs1_99_n00_X9_modularOf_41), (((((0, 11, bg_393), (0, 0, 0)), zO1), zO2), zO3)), (17, (0, 0)))
theorem ev_X9_modularOf_97 : f_X9_modularOfa [zR 1, zI 4] h0_X9_modularOf_97 (zrk (zI 4294967296) h1_X9_modularOf_97) = true := by decide +kernel
noncomputable def g_X9_modularOf_97 {d : Nat} : List zV → zH d → zP d → Bool := zsmyM [(0, 0), (1, 21), (1, 20), (1, 22), (1, 33), (1, 3), (1, 31), (1, 32), (1, 26), (1, 27), (1, 4), (1, 29), (1, 30), (1, 35), (1, 34), (1, 36), (1, 6)] [zR 1, zI 4] h0_X9_modularOf_97 (zI 4294967296) h1_X9_modularOf_97
theorem mg_X9_modularOf_97 {d : Nat} : zMet (d := d) X_X9_modularOf yX9_modularOf 19 g_X9_modularOf_97 := zMet_smM m_X9_modularOfa ev_X9_modularOf_97
noncomputable def zk_99_zs1_99_n00_X9_modularOf_56 : zT 2 := @Prod.mk (zT 1) (zT 1) ((25, 63, bg_406), (0, 11, bg_145)) ((0, 11, bg_146), (0, 456, bg_40))
noncomputable def h0_X9_modularOf_98 : zH 5 := (show zT 5 from (((zk_99_zs1_99_n00_X9_modularOf_56, zk_99_zs1_99_n00_X9_modularOf_37), zk_99_zs1_99_n00_X9_modularOf_45), (((((0, 11, bg_393), (0, 0, 0)), zO1), zO2), zO3)), (17, (0, 0)))
noncomputable def h1_X9_modularOf_98 : zH 5 := (show zT 5 from (((zk_99_zs1_99_n00_X9_modularOf_56, zk_99_zs1_99_n00_X9_modularOf_39), zk_99_zs1_99_n00_X9_modularOf_45), (((((0, 11, bg_393), (0, 0, 0)), zO1), zO2), zO3)), (17, (0, 0)))
theorem ev_X9_modularOf_98 : f_X9_modularOfa [zR 1, zI 0] h0_X9_modularOf_98 (zrk (zI 4294967296) h1_X9_modularOf_98) = true := by decide +kernel
noncomputable def g_X9_modularOf_98 {d : Nat} : List zV → zH d → zP d → Bool := zsmyM [(0, 0), (1, 21), (1, 20), (1, 22), (1, 33), (1, 3), (1, 31), (1, 32), (1, 26), (1, 27), (1, 4), (1, 29), (1, 30), (1, 35), (1, 34), (1, 36), (1, 6)] [zR 1, zI 0] h0_X9_modularOf_98 (zI 4294967296) h1_X9_modularOf_98
theorem mg_X9_modularOf_98 {d : Nat} : zMet (d := d) X_X9_modularOf yX9_modularOf 19 g_X9_modularOf_98 := zMet_smM m_X9_modularOfa ev_X9_modularOf_98
noncomputable def h0_X9_modularOf_99 : zH 5 := (show zT 5 from (((zk_99_zs1_99_n00_X9_modularOf_56, zk_99_zs1_99_n00_X9_modularOf_37), zk_99_zs1_99_n00_X9_modularOf_45), (((((0, 11, bg_393), (0, 0, 0)), zO1), zO2), zO3)), (17, (0, 0)))
noncomputable def h1_X9_modularOf_99 : zH 5 := (show zT 5 from (((zk_99_zs1_99_n00_X9_modularOf_56, zk_99_zs1_99_n00_X9_modularOf_39), zk_99_zs1_99_n00_X9_modularOf_45), (((((0, 11, bg_393), (0, 0, 0)), zO1), zO2), zO3)), (17, (0, 0)))
theorem ev_X9_modularOf_99 : f_X9_modularOfa [zR 1, zI 1] h0_X9_modularOf_99 (zrk (zI 4294967296) h1_X9_modularOf_99) = true := by decide +kernel
noncomputable def g_X9_modularOf_99 {d : Nat} : List zV → zH d → zP d → Bool := zsmyM [(0, 0), (1, 21), (1, 20), (1, 22), (1, 33), (1, 3), (1, 31), (1, 32), (1, 26), (1, 27), (1, 4), (1, 29), (1, 30), (1, 35), (1, 34), (1, 36), (1, 6)] [zR 1, zI 1] h0_X9_modularOf_99 (zI 4294967296) h1_X9_modularOf_99
theorem mg_X9_modularOf_99 {d : Nat} : zMet (d := d) X_X9_modularOf yX9_modularOf 19 g_X9_modularOf_99 := zMet_smM m_X9_modularOfa ev_X9_modularOf_99
noncomputable def h0_X9_modularOf_100 : zH 5 := (show zT 5 from (((zk_99_zs1_99_n00_X9_modularOf_56, zk_99_zs1_99_n00_X9_modularOf_37), zk_99_zs1_99_n00_X9_modularOf_45), (((((0, 11, bg_393), (0, 0, 0)), zO1), zO2), zO3)), (17, (0, 0)))
noncomputable def h1_X9_modularOf_100 : zH 5 := (show zT 5 from (((zk_99_zs1_99_n00_X9_modularOf_56, zk_99_zs1_99_n00_X9_modularOf_39), zk_99_zs1_99_n00_X9_modularOf_45), (((((0, 11, bg_393), (0, 0, 0)), zO1), zO2), zO3)), (17, (0, 0)))
theorem ev_X9_modularOf_100 : f_X9_modularOfa [zR 1, zI 2] h0_X9_modularOf_100 (zrk (zI 4294967296) h1_X9_modularOf_100) = true := by decide +kernel
noncomputable def g_X9_modularOf_100 {d : Nat} : List zV → zH d → zP d → Bool := zsmyM [(0, 0), (1, 21), (1, 20), (1, 22), (1, 33), (1, 3), (1, 31), (1, 32), (1, 26), (1, 27), (1, 4), (1, 29), (1, 30), (1, 35), (1, 34), (1, 36), (1, 6)] [zR 1, zI 2] h0_X9_modularOf_100 (zI 4294967296) h1_X9_modularOf_100
theorem mg_X9_modularOf_100 {d : Nat} : zMet (d := d) X_X9_modularOf yX9_modularOf 19 g_X9_modularOf_100 := zMet_smM m_X9_modularOfa ev_X9_modularOf_100
noncomputable def h0_X9_modularOf_101 : zH 5 := (show zT 5 from (((zk_99_zs1_99_n00_X9_modularOf_56, zk_99_zs1_99_n00_X9_modularOf_37), zk_99_zs1_99_n00_X9_modularOf_45), (((((0, 11, bg_393), (0, 0, 0)), zO1), zO2), zO3)), (17, (0, 0)))
noncomputable def h1_X9_modularOf_101 : zH 5 := (show zT 5 from (((zk_99_zs1_99_n00_X9_modularOf_56, zk_99_zs1_99_n00_X9_modularOf_39), zk_99_zs1_99_n00_X9_modularOf_45), (((((0, 11, bg_393), (0, 0, 0)), zO1), zO2), zO3)), (17, (0, 0)))
theorem ev_X9_modularOf_101 : f_X9_modularOfa [zR 1, zI 3] h0_X9_modularOf_101 (zrk (zI 4294967296) h1_X9_modularOf_101) = true := by decide +kernel
noncomputable def g_X9_modularOf_101 {d : Nat} : List zV → zH d → zP d → Bool := zsmyM [(0, 0), (1, 21), (1, 20), (1, 22), (1, 33), (1, 3), (1, 31), (1, 32), (1, 26), (1, 27), (1, 4), (1, 29), (1, 30), (1, 35), (1, 34), (1, 36), (1, 6)] [zR 1, zI 3] h0_X9_modularOf_101 (zI 4294967296) h1_X9_modularOf_101
theorem mg_X9_modularOf_101 {d : Nat} : zMet (d := d) X_X9_modularOf yX9_modularOf 19 g_X9_modularOf_101 := zMet_smM m_X9_modularOfa ev_X9_modularOf_101
noncomputable def h0_X9_modularOf_102 : zH 5 := (show zT 5 from (((zk_99_zs1_99_n00_X9_modularOf_56, zk_99_zs1_99_n00_X9_modularOf_37), zk_99_zs1_99_n00_X9_modularOf_45), (((((0, 11, bg_393), (0, 0, 0)), zO1), zO2), zO3)), (17, (0, 0)))
noncomputable def h1_X9_modularOf_102 : zH 5 := (show zT 5 from (((zk_99_zs1_99_n00_X9_modularOf_56, zk_99_zs1_99_n00_X9_modularOf_39), zk_99_zs1_99_n00_X9_modularOf_45), (((((0, 11, bg_393), (0, 0, 0)), zO1), zO2), zO3)), (17, (0, 0)))
theorem ev_X9_modularOf_102 : f_X9_modularOfa [zR 1, zI 4] h0_X9_modularOf_102 (zrk (zI 4294967296) h1_X9_modularOf_102) = true := by decide +kernel
noncomputable def g_X9_modularOf_102 {d : Nat} : List zV → zH d → zP d → Bool := zsmyM [(0, 0), (1, 21), (1, 20), (1, 22), (1, 33), (1, 3), (1, 31), (1, 32), (1, 26), (1, 27), (1, 4), (1, 29), (1, 30), (1, 35), (1, 34), (1, 36), (1, 6)] [zR 1, zI 4] h0_X9_modularOf_102 (zI 4294967296) h1_X9_modularOf_102
theorem mg_X9_modularOf_102 {d : Nat} : zMet (d := d) X_X9_modularOf yX9_modularOf 19 g_X9_modularOf_102 := zMet_smM m_X9_modularOfa ev_X9_modularOf_102
noncomputable def zk_99_zs1_99_n00_X9_modularOf_57 : zT 2 := @Prod.mk (zT 1) (zT 1) ((25, 63, bg_407), (0, 11, bg_148)) ((0, 11, bg_149), (0, 456, bg_43))
noncomputable def h0_X9_modularOf_103 : zH 5 := (show zT 5 from (((zk_99_zs1_99_n00_X9_modularOf_57, zk_99_zs1_99_n00_X9_modularOf_37), zk_99_zs1_99_n00_X9_modularOf_47), (((((0, 11, bg_393), (0, 0, 0)), zO1), zO2), zO3)), (17, (0, 0)))
noncomputable def h1_X9_modularOf_103 : zH 5 := (show zT 5 from (((zk_99_zs1_99_n00_X9_modularOf_57, zk_99_zs1_99_n00_X9_modularOf_39), zk_99_zs1_99_n00_X9_modularOf_47), (((((0, 11, bg_393), (0, 0, 0)), zO1), zO2), zO3)), (17, (0, 0)))
theorem ev_X9_modularOf_103 : f_X9_modularOfa [zR 1, zI 0] h0_X9_modularOf_103 (zrk (zI 4294967296) h1_X9_modularOf_103) = true := by decide +kernel
noncomputable def g_X9_modularOf_103 {d : Nat} : List zV → zH d → zP d → Bool := zsmyM [(0, 0), (1, 21), (1, 20), (1, 22), (1, 33), (1, 3), (1, 31), (1, 32), (1, 26), (1, 27), (1, 4), (1, 29), (1, 30), (1, 35), (1, 34), (1, 36), (1, 6)] [zR 1, zI 0] h0_X9_modularOf_103 (zI 4294967296) h1_X9_modularOf_103
theorem mg_X9_modularOf_103 {d : Nat} : zMet (d := d) X_X9_modularOf yX9_modularOf 19 g_X9_modularOf_103 := zMet_smM m_X9_modularOfa ev_X9_modularOf_103
noncomputable def h0_X9_modularOf_104 : zH 5 := (show zT 5 from (((zk_99_zs1_99_n00_X9_modularOf_57, zk_99_zs1_99_n00_X9_modularOf_37), zk_99_zs1_99_n00_X9_modularOf_47), (((((0, 11, bg_393), (0, 0, 0)), zO1), zO2), zO3)), (17, (0, 0)))
noncomputable def h1_X9_modularOf_104 : zH 5 := (show zT 5 from (((zk_99_zs1_99_n00_X9_modularOf_57, zk_99_zs1_99_n00_X9_modularOf_39), zk_99_zs1_99_n00_X9_modularOf_47), (((((0, 11, bg_393), (0, 0, 0)), zO1), zO2), zO3)), (17, (0, 0)))
theorem ev_X9_modularOf_104 : f_X9_modularOfa [zR 1, zI 1] h0_X9_modularOf_104 (zrk (zI 4294967296) h1_X9_modularOf_104) = true := by decide +kernel
noncomputable def g_X9_modularOf_104 {d : Nat} : List zV → zH d → zP d → Bool := zsmyM [(0, 0), (1, 21), (1, 20), (1, 22), (1, 33), (1, 3), (1, 31), (1, 32), (1, 26), (1, 27), (1, 4), (1, 29), (1, 30), (1, 35), (1, 34), (1, 36), (1, 6)] [zR 1, zI 1] h0_X9_modularOf_104 (zI 4294967296) h1_X9_modularOf_104
theorem mg_X9_modularOf_104 {d : Nat} : zMet (d := d) X_X9_modularOf yX9_modularOf 19 g_X9_modularOf_104 := zMet_smM m_X9_modularOfa ev_X9_modularOf_104
noncomputable def h0_X9_modularOf_105 : zH 5 := (show zT 5 from (((zk_99_zs1_99_n00_X9_modularOf_57, zk_99_zs1_99_n00_X9_modularOf_37), zk_99_zs1_99_n00_X9_modularOf_47), (((((0, 11, bg_393), (0, 0, 0)), zO1), zO2), zO3)), (17, (0, 0)))
noncomputable def h1_X9_modularOf_105 : zH 5 := (show zT 5 from (((zk_99_zs1_99_n00_X9_modularOf_57, zk_99_zs1_99_n00_X9_modularOf_39), zk_99_zs1_99_n00_X9_modularOf_47), (((((0, 11, bg_393), (0, 0, 0)), zO1), zO2), zO3)), (17, (0, 0)))
theorem ev_X9_modularOf_105 : f_X9_modularOfa [zR 1, zI 2] h0_X9_modularOf_105 (zrk (zI 4294967296) h1_X9_modularOf_105) = true := by decide +kernel
noncomputable def g_X9_modularOf_105 {d : Nat} : List zV → zH d → zP d → Bool := zsmyM [(0, 0), (1, 21), (1, 20), (1, 22), (1, 33), (1, 3), (1, 31), (1, 32), (1, 26), (1, 27), (1, 4), (1, 29), (1, 30), (1, 35), (1, 34), (1, 36), (1, 6)] [zR 1, zI 2] h0_X9_modularOf_105 (zI 4294967296) h1_X9_modularOf_105
theorem mg_X9_modularOf_105 {d : Nat} : zMet (d := d) X_X9_modularOf yX9_modularOf 19 g_X9_modularOf_105 := zMet_smM m_X9_modularOfa ev_X9_modularOf_105
noncomputable def h0_X9_modularOf_106 : zH 5 := (show zT 5 from (((zk_99_zs1_99_n00_X9_modularOf_57, zk_99_zs1_99_n00_X9_modularOf_37), zk_99_zs1_99_n00_X9_modularOf_47), (((((0, 11, bg_393), (0, 0, 0)), zO1), zO2), zO3)), (17, (0, 0)))
noncomputable def h1_X9_modularOf_106 : zH 5 := (show zT 5 from (((zk_99_zs1_99_n00_X9_modularOf_57, zk_99_zs1_99_n00_X9_modularOf_39), zk_99_zs1_99_n00_X9_modularOf_47), (((((0, 11, bg_393), (0, 0, 0)), zO1), zO2), zO3)), (17, (0, 0)))
theorem ev_X9_modularOf_106 : f_X9_modularOfa [zR 1, zI 3] h0_X9_modularOf_106 (zrk (zI 4294967296) h1_X9_modularOf_106) = true := by decide +kernel
noncomputable def g_X9_modularOf_106 {d : Nat} : List zV → zH d → zP d → Bool := zsmyM [(0, 0), (1, 21), (1, 20), (1, 22), (1, 33), (1, 3), (1, 31), (1, 32), (1, 26), (1, 27), (1, 4), (1, 29), (1, 30), (1, 35), (1, 34), (1, 36), (1, 6)] [zR 1, zI 3] h0_X9_modularOf_106 (zI 4294967296) h1_X9_modularOf_106
theorem mg_X9_modularOf_106 {d : Nat} : zMet (d := d) X_X9_modularOf yX9_modularOf 19 g_X9_modularOf_106 := zMet_smM m_X9_modularOfa ev_X9_modularOf_106
noncomputable def h0_X9_modularOf_107 : zH 5 := (show zT 5 from (((zk_99_zs1_99_n00_X9_modularOf_57, zk_99_zs1_99_n00_X9_modularOf_37), zk_99_zs1_99_n00_X9_modularOf_47), (((((0, 11, bg_393), (0, 0, 0)), zO1), zO2), zO3)), (17, (0, 0)))
noncomputable def h1_X9_modularOf_107 : zH 5 := (show zT 5 from (((zk_99_zs1_99_n00_X9_modularOf_57, zk_99_zs1_99_n00_X9_modularOf_39), zk_99_zs1_99_n00_X9_modularOf_47), (((((0, 11, bg_393), (0, 0, 0)), zO1), zO2), zO3)), (17, (0, 0)))
theorem ev_X9_modularOf_107 : f_X9_modularOfa [zR 1, zI 4] h0_X9_modularOf_107 (zrk (zI 4294967296) h1_X9_modularOf_107) = true := by decide +kernel
noncomputable def g_X9_modularOf_107 {d : Nat} : List zV → zH d → zP d → Bool := zsmyM [(0, 0), (1, 21), (1, 20), (1, 22), (1, 33), (1, 3), (1, 31), (1, 32), (1, 26), (1, 27), (1, 4), (1, 29), (1, 30), (1, 35), (1, 34), (1, 36), (1, 6)] [zR 1, zI 4] h0_X9_modularOf_107 (zI 4294967296) h1_X9_modularOf_107
theorem mg_X9_modularOf_107 {d : Nat} : zMet (d := d) X_X9_modularOf yX9_modularOf 19 g_X9_modularOf_107 := zMet_smM m_X9_modularOfa ev_X9_modularOf_107
noncomputable def zk_99_zs1_99_n00_X9_modularOf_58 : zT 2 := @Prod.mk (zT 1) (zT 1) ((25, 63, bg_408), (0, 11, bg_151)) ((0, 11, bg_152), (0, 456, bg_46))
noncomputable def h0_X9_modularOf_108 : zH 5 := (show zT 5 from (((zk_99_zs1_99_n00_X9_modularOf_58, zk_99_zs1_99_n00_X9_modularOf_37), zk_99_zs1_99_n00_X9_modularOf_53), (((((0, 11, bg_393), (0, 0, 0)), zO1), zO2), zO3)), (17, (0, 0)))
noncomputable def h1_X9_modularOf_108 : zH 5 := (show zT 5 from (((zk_99_zs1_99_n00_X9_modularOf_58, zk_99_zs1_99_n00_X9_modularOf_39), zk_99_zs1_99_n00_X9_modularOf_53), (((((0, 11, bg_393), (0, 0, 0)), zO1), zO2), zO3)), (17, (0, 0)))
theorem ev_X9_modularOf_108 : f_X9_modularOfa [zR 1, zI 0] h0_X9_modularOf_108 (zrk (zI 4294967296) h1_X9_modularOf_108) = true := by decide +kernel
noncomputable def g_X9_modularOf_108 {d : Nat} : List zV → zH d → zP d → Bool := zsmyM [(0, 0), (1, 21), (1, 20), (1, 22), (1, 33), (1, 3), (1, 31), (1, 32), (1, 26), (1, 27), (1, 4), (1, 29), (1, 30), (1, 35), (1, 34), (1, 36), (1, 6)] [zR 1, zI 0] h0_X9_modularOf_108 (zI 4294967296) h1_X9_modularOf_108
theorem mg_X9_modularOf_108 {d : Nat} : zMet (d := d) X_X9_modularOf yX9_modularOf 19 g_X9_modularOf_108 := zMet_smM m_X9_modularOfa ev_X9_modularOf_108
noncomputable def h0_X9_modularOf_109 : zH 5 := (show zT 5 from (((zk_99_zs1_99_n00_X9_modularOf_58, zk_99_zs1_99_n00_X9_modularOf_37), zk_99_zs1_99_n00_X9_modularOf_53), (((((0, 11, bg_393), (0, 0, 0)), zO1), zO2), zO3)), (17, (0, 0)))
noncomputable def h1_X9_modularOf_109 : zH 5 := (show zT 5 from (((zk_99_zs1_99_n00_X9_modularOf_58, zk_99_zs1_99_n00_X9_modularOf_39), zk_99_zs1_99_n00_X9_modularOf_53), (((((0, 11, bg_393), (0, 0, 0)), zO1), zO2), zO3)), (17, (0, 0)))
theorem ev_X9_modularOf_109 : f_X9_modularOfa [zR 1, zI 1] h0_X9_modularOf_109 (zrk (zI 4294967296) h1_X9_modularOf_109) = true := by decide +kernel
noncomputable def g_X9_modularOf_109 {d : Nat} : List zV → zH d → zP d → Bool := zsmyM [(0, 0), (1, 21), (1, 20), (1, 22), (1, 33), (1, 3), (1, 31), (1, 32), (1, 26), (1, 27), (1, 4), (1, 29), (1, 30), (1, 35), (1, 34), (1, 36), (1, 6)] [zR 1, zI 1] h0_X9_modularOf_109 (zI 4294967296) h1_X9_modularOf_109
theorem mg_X9_modularOf_109 {d : Nat} : zMet (d := d) X_X9_modularOf yX9_modularOf 19 g_X9_modularOf_109 := zMet_smM m_X9_modularOfa ev_X9_modularOf_109
noncomputable def h0_X9_modularOf_110 : zH 5 := (show zT 5 from (((zk_99_zs1_99_n00_X9_modularOf_58, zk_99_zs1_99_n00_X9_modularOf_37), zk_99_zs1_99_n00_X9_modularOf_53), (((((0, 11, bg_393), (0, 0, 0)), zO1), zO2), zO3)), (17, (0, 0)))
noncomputable def h1_X9_modularOf_110 : zH 5 := (show zT 5 from (((zk_99_zs1_99_n00_X9_modularOf_58, zk_99_zs1_99_n00_X9_modularOf_39), zk_99_zs1_99_n00_X9_modularOf_53), (((((0, 11, bg_393), (0, 0, 0)), zO1), zO2), zO3)), (17, (0, 0)))
theorem ev_X9_modularOf_110 : f_X9_modularOfa [zR 1, zI 2] h0_X9_modularOf_110 (zrk (zI 4294967296) h1_X9_modularOf_110) = true := by decide +kernel
noncomputable def g_X9_modularOf_110 {d : Nat} : List zV → zH d → zP d → Bool := zsmyM [(0, 0), (1, 21), (1, 20), (1, 22), (1, 33), (1, 3), (1, 31), (1, 32), (1, 26), (1, 27), (1, 4), (1, 29), (1, 30), (1, 35), (1, 34), (1, 36), (1, 6)] [zR 1, zI 2] h0_X9_modularOf_110 (zI 4294967296) h1_X9_modularOf_110
theorem mg_X9_modularOf_110 {d : Nat} : zMet (d := d) X_X9_modularOf yX9_modularOf 19 g_X9_modularOf_110 := zMet_smM m_X9_modularOfa ev_X9_modularOf_110
noncomputable def h0_X9_modularOf_111 : zH 5 := (show zT 5 from (((zk_99_zs1_99_n00_X9_modularOf_58, zk_99_zs1_99_n00_X9_modularOf_37), zk_99_zs1_99_n00_X9_modularOf_53), (((((0, 11, bg_393), (0, 0, 0)), zO1), zO2), zO3)), (17, (0, 0)))
noncomputable def h1_X9_modularOf_111 : zH 5 := (show zT 5 from (((zk_99_zs1_99_n00_X9_modularOf_58, zk_99_zs1_99_n00_X9_modularOf_39), zk_99_zs1_99_n00_X9_modularOf_53), (((((0, 11, bg_393), (0, 0, 0)), zO1), zO2), zO3)), (17, (0, 0)))
theorem ev_X9_modularOf_111 : f_X9_modularOfa [zR 1, zI 3] h0_X9_modularOf_111 (zrk (zI 4294967296) h1_X9_modularOf_111) = true := by decide +kernel
noncomputable def g_X9_modularOf_111 {d : Nat} : List zV → zH d → zP d → Bool := zsmyM [(0, 0), (1, 21), (1, 20), (1, 22), (1, 33), (1, 3), (1, 31), (1, 32), (1, 26), (1, 27), (1, 4), (1, 29), (1, 30), (1, 35), (1, 34), (1, 36), (1, 6)] [zR 1, zI 3] h0_X9_modularOf_111 (zI 4294967296) h1_X9_modularOf_111
theorem mg_X9_modularOf_111 {d : Nat} : zMet (d := d) X_X9_modularOf yX9_modularOf 19 g_X9_modularOf_111 := zMet_smM m_X9_modularOfa ev_X9_modularOf_111
noncomputable def h0_X9_modularOf_112 : zH 5 := (show zT 5 from (((zk_99_zs1_99_n00_X9_modularOf_58, zk_99_zs1_99_n00_X9_modularOf_37), zk_99_zs1_99_n00_X9_modularOf_53), (((((0, 11, bg_393), (0, 0, 0)), zO1), zO2), zO3)), (17, (0, 0)))
noncomputable def h1_X9_modularOf_112 : zH 5 := (show zT 5 from (((zk_99_zs1_99_n00_X9_modularOf_58, zk_99_zs1_99_n00_X9_modularOf_39), zk_99_zs1_99_n00_X9_modularOf_53), (((((0, 11, bg_393), (0, 0, 0)), zO1), zO2), zO3)), (17, (0, 0)))
theorem ev_X9_modularOf_112 : f_X9_modularOfa [zR 1, zI 4] h0_X9_modularOf_112 (zrk (zI 4294967296) h1_X9_modularOf_112) = true := by decide +kernel
noncomputable def g_X9_modularOf_112 {d : Nat} : List zV → zH d → zP d → Bool := zsmyM [(0, 0), (1, 21), (1, 20), (1, 22), (1, 33), (1, 3), (1, 31), (1, 32), (1, 26), (1, 27), (1, 4), (1, 29), (1, 30), (1, 35), (1, 34), (1, 36), (1, 6)] [zR 1, zI 4] h0_X9_modularOf_112 (zI 4294967296) h1_X9_modularOf_112
theorem mg_X9_modularOf_112 {d : Nat} : zMet (d := d) X_X9_modularOf yX9_modularOf 19 g_X9_modularOf_112 := zMet_smM m_X9_modularOfa ev_X9_modularOf_112
noncomputable def zk_99_zs1_99_n00_X9_modularOf_59 : zT 2 := @Prod.mk (zT 1) (zT 1) ((25, 63, bg_409), (0, 11, bg_8)) ((0, 11, bg_131), (0, 456, bg_49))
noncomputable def zk_99_zs1_99_n00_X9_modularOf_60 : zT 2 := @Prod.mk (zT 1) (zT 1) (zk_99_zs1_99_n00_X9_modularOf_1, (0, 66, bg_5)) zk_99_zs1_99_n00_X9_modularOf_2
noncomputable def zk_99_zs1_99_n00_X9_modularOf_61 : zT 3 := @Prod.mk (zT 2) (zT 2) (((10, 46656, 5), (11, 720, 5)), ((0, 11, bg_12), (0, 12000, zun 40 12000 4294967296))) zk_99_zs1_99_n00_X9_modularOf_4
noncomputable def h0_X9_modularOf_113 : zH 5 := (show zT 5 from (((zk_99_zs1_99_n00_X9_modularOf_59, zk_99_zs1_99_n00_X9_modularOf_60), zk_99_zs1_99_n00_X9_modularOf_61), (((((0, 11, bg_410), (0, 0, 0)), zO1), zO2), zO3)), (17, (0, 0)))
noncomputable def zk_99_zs1_99_n00_X9_modularOf_62 : zT 2 := @Prod.mk (zT 1) (zT 1) ((0, 7, 0x100000000000000000500000000040000000003000000000200000000010100000000), (0, 66, bg_5)) zk_99_zs1_99_n00_X9_modularOf_2
noncomputable def h1_X9_modularOf_113 : zH 5 := (show zT 5 from (((zk_99_zs1_99_n00_X9_modularOf_59, zk_99_zs1_99_n00_X9_modularOf_62), zk_99_zs1_99_n00_X9_modularOf_61), (((((0, 11, bg_410), (0, 0, 0)), zO1), zO2), zO3)), (17, (0, 0)))
theorem ev_X9_modularOf_113 : f_X9_modularOfa [zR 1, zI 0] h0_X9_modularOf_113 (zrk (zI 4294967296) h1_X9_modularOf_113) = true := by decide +kernel
noncomputable def g_X9_modularOf_113 {d : Nat} : List zV → zH d → zP d → Bool := zsmyM [(0, 0), (1, 21), (1, 20), (1, 22), (1, 33), (1, 3), (1, 31), (1, 32), (1, 26), (1, 27), (1, 4), (1, 29), (1, 30), (1, 35), (1, 34), (1, 36), (1, 6)] [zR 1, zI 0] h0_X9_modularOf_113 (zI 4294967296) h1_X9_modularOf_113
theorem mg_X9_modularOf_113 {d : Nat} : zMet (d := d) X_X9_modularOf yX9_modularOf 19 g_X9_modularOf_113 := zMet_smM m_X9_modularOfa ev_X9_modularOf_113
noncomputable def h0_X9_modularOf_114 : zH 5 := (show zT 5 from (((zk_99_zs1_99_n00_X9_modularOf_59, zk_99_zs1_99_n00_X9_modularOf_60), zk_99_zs1_99_n00_X9_modularOf_61), (((((0, 11, bg_410), (0, 0, 0)), zO1), zO2), zO3)), (17, (0, 0)))
noncomputable def h1_X9_modularOf_114 : zH 5 := (show zT 5 from (((zk_99_zs1_99_n00_X9_modularOf_59, zk_99_zs1_99_n00_X9_modularOf_62), zk_99_zs1_99_n00_X9_modularOf_61), (((((0, 11, bg_410), (0, 0, 0)), zO1), zO2), zO3)), (17, (0, 0)))
theorem ev_X9_modularOf_114 : f_X9_modularOfa [zR 1, zI 3] h0_X9_modularOf_114 (zrk (zI 4294967296) h1_X9_modularOf_114) = true := by decide +kernel
noncomputable def g_X9_modularOf_114 {d : Nat} : List zV → zH d → zP d → Bool := zsmyM [(0, 0), (1, 21), (1, 20), (1, 22), (1, 33), (1, 3), (1, 31), (1, 32), (1, 26), (1, 27), (1, 4), (1, 29), (1, 30), (1, 35), (1, 34), (1, 36), (1, 6)] [zR 1, zI 3] h0_X9_modularOf_114 (zI 4294967296) h1_X9_modularOf_114
theorem mg_X9_modularOf_114 {d : Nat} : zMet (d := d) X_X9_modularOf yX9_modularOf 19 g_X9_modularOf_114 := zMet_smM m_X9_modularOfa ev_X9_modularOf_114
noncomputable def h0_X9_modularOf_115 : zH 5 := (show zT 5 from (((zk_99_zs1_99_n00_X9_modularOf_59, zk_99_zs1_99_n00_X9_modularOf_60), zk_99_zs1_99_n00_X9_modularOf_61), (((((0, 11, bg_410), (0, 0, 0)), zO1), zO2), zO3)), (17, (0, 0)))
noncomputable def h1_X9_modularOf_115 : zH 5 := (show zT 5 from (((zk_99_zs1_99_n00_X9_modularOf_59, zk_99_zs1_99_n00_X9_modularOf_62), zk_99_zs1_99_n00_X9_modularOf_61), (((((0, 11, bg_410), (0, 0, 0)), zO1), zO2), zO3)), (17, (0, 0)))
theorem ev_X9_modularOf_115 : f_X9_modularOfa [zR 1, zI 6] h0_X9_modularOf_115 (zrk (zI 4294967296) h1_X9_modularOf_115) = true := by decide +kernel
noncomputable def g_X9_modularOf_115 {d : Nat} : List zV → zH d → zP d → Bool := zsmyM [(0, 0), (1, 21), (1, 20), (1, 22), (1, 33), (1, 3), (1, 31), (1, 32), (1, 26), (1, 27), (1, 4), (1, 29), (1, 30), (1, 35), (1, 34), (1, 36), (1, 6)] [zR 1, zI 6] h0_X9_modularOf_115 (zI 4294967296) h1_X9_modularOf_115
theorem mg_X9_modularOf_115 {d : Nat} : zMet (d := d) X_X9_modularOf yX9_modularOf 19 g_X9_modularOf_115 := zMet_smM m_X9_modularOfa ev_X9_modularOf_115
noncomputable def zk_99_zs1_99_n00_X9_modularOf_63 : zT 2 := @Prod.mk (zT 1) (zT 1) ((25, 63, bg_411), (0, 11, bg_155)) ((0, 11, bg_135), (0, 456, bg_52))
noncomputable def zk_99_zs1_99_n00_X9_modularOf_64 : zT 3 := @Prod.mk (zT 2) (zT 2) (((10, 46656, 12), (11, 720, 12)), ((0, 11, bg_12), (0, 12000, zun 40 12000 4294967296))) zk_99_zs1_99_n00_X9_modularOf_4
noncomputable def h0_X9_modularOf_116 : zH 5 := (show zT 5 from (((zk_99_zs1_99_n00_X9_modularOf_63, zk_99_zs1_99_n00_X9_modularOf_60), zk_99_zs1_99_n00_X9_modularOf_64), (((((0, 11, bg_410), (0, 0, 0)), zO1), zO2), zO3)), (17, (0, 0)))
noncomputable def h1_X9_modularOf_116 : zH 5 := (show zT 5 from (((zk_99_zs1_99_n00_X9_modularOf_63, zk_99_zs1_99_n00_X9_modularOf_62), zk_99_zs1_99_n00_X9_modularOf_64), (((((0, 11, bg_410), (0, 0, 0)), zO1), zO2), zO3)), (17, (0, 0)))
theorem ev_X9_modularOf_116 : f_X9_modularOfa [zR 1, zI 0] h0_X9_modularOf_116 (zrk (zI 4294967296) h1_X9_modularOf_116) = true := by decide +kernel
noncomputable def g_X9_modularOf_116 {d : Nat} : List zV → zH d → zP d → Bool := zsmyM [(0, 0), (1, 21), (1, 20), (1, 22), (1, 33), (1, 3), (1, 31), (1, 32), (1, 26), (1, 27), (1, 4), (1, 29), (1, 30), (1, 35), (1, 34), (1, 36), (1, 6)] [zR 1, zI 0] h0_X9_modularOf_116 (zI 4294967296) h1_X9_modularOf_116
theorem mg_X9_modularOf_116 {d : Nat} : zMet (d := d) X_X9_modularOf yX9_modularOf 19 g_X9_modularOf_116 := zMet_smM m_X9_modularOfa ev_X9_modularOf_116
noncomputable def h0_X9_modularOf_117 : zH 5 := (show zT 5 from (((zk_99_zs1_99_n00_X9_modularOf_63, zk_99_zs1_99_n00_X9_modularOf_60), zk_99_zs1_99_n00_X9_modularOf_64), (((((0, 11, bg_410), (0, 0, 0)), zO1), zO2), zO3)), (17, (0, 0)))
noncomputable def h1_X9_modularOf_117 : zH 5 := (show zT 5 from (((zk_99_zs1_99_n00_X9_modularOf_63, zk_99_zs1_99_n00_X9_modularOf_62), zk_99_zs1_99_n00_X9_modularOf_64), (((((0, 11, bg_410), (0, 0, 0)), zO1), zO2), zO3)), (17, (0, 0)))
theorem ev_X9_modularOf_117 : f_X9_modularOfa [zR 1, zI 3] h0_X9_modularOf_117 (zrk (zI 4294967296) h1_X9_modularOf_117) = true := by decide +kernel
noncomputable def g_X9_modularOf_117 {d : Nat} : List zV → zH d → zP d → Bool := zsmyM [(0, 0), (1, 21), (1, 20), (1, 22), (1, 33), (1, 3), (1, 31), (1, 32), (1, 26), (1, 27), (1, 4), (1, 29), (1, 30), (1, 35), (1, 34), (1, 36), (1, 6)] [zR 1, zI 3] h0_X9_modularOf_117 (zI 4294967296) h1_X9_modularOf_117
theorem mg_X9_modularOf_117 {d : Nat} : zMet (d := d) X_X9_modularOf yX9_modularOf 19 g_X9_modularOf_117 := zMet_smM m_X9_modularOfa ev_X9_modularOf_117
noncomputable def h0_X9_modularOf_118 : zH 5 := (show zT 5 from (((zk_99_zs1_99_n00_X9_modularOf_63, zk_99_zs1_99_n00_X9_modularOf_60), zk_99_zs1_99_n00_X9_modularOf_64), (((((0, 11, bg_410), (0, 0, 0)), zO1), zO2), zO3)), (17, (0, 0)))
noncomputable def h1_X9_modularOf_118 : zH 5 := (show zT 5 from (((zk_99_zs1_99_n00_X9_modularOf_63, zk_99_zs1_99_n00_X9_modularOf_62), zk_99_zs1_99_n00_X9_modularOf_64), (((((0, 11, bg_410), (0, 0, 0)), zO1), zO2), zO3)), (17, (0, 0)))
theorem ev_X9_modularOf_118 : f_X9_modularOfa [zR 1, zI 6] h0_X9_modularOf_118 (zrk (zI 4294967296) h1_X9_modularOf_118) = true := by decide +kernel
noncomputable def g_X9_modularOf_118 {d : Nat} : List zV → zH d → zP d → Bool := zsmyM [(0, 0), (1, 21), (1, 20), (1, 22), (1, 33), (1, 3), (1, 31), (1, 32), (1, 26), (1, 27), (1, 4), (1, 29), (1, 30), (1, 35), (1, 34), (1, 36), (1, 6)] [zR 1, zI 6] h0_X9_modularOf_118 (zI 4294967296) h1_X9_modularOf_118
theorem mg_X9_modularOf_118 {d : Nat} : zMet (d := d) X_X9_modularOf yX9_modularOf 19 g_X9_modularOf_118 := zMet_smM m_X9_modularOfa ev_X9_modularOf_118
noncomputable def zk_99_zs1_99_n00_X9_modularOf_65 : zT 2 := @Prod.mk (zT 1) (zT 1) ((25, 63, bg_412), (0, 11, bg_157)) ((0, 11, bg_158), (0, 456, bg_55))
noncomputable def zk_99_zs1_99_n00_X9_modularOf_66 : zT 3 := @Prod.mk (zT 2) (zT 2) (((10, 46656, 19), (11, 720, 19)), ((0, 11, bg_12), (0, 12000, zun 40 12000 4294967296))) zk_99_zs1_99_n00_X9_modularOf_4
noncomputable def h0_X9_modularOf_119 : zH 5 := (show zT 5 from (((zk_99_zs1_99_n00_X9_modularOf_65, zk_99_zs1_99_n00_X9_modularOf_60), zk_99_zs1_99_n00_X9_modularOf_66), (((((0, 11, bg_410), (0, 0, 0)), zO1), zO2), zO3)), (17, (0, 0)))
noncomputable def h1_X9_modularOf_119 : zH 5 := (show zT 5 from (((zk_99_zs1_99_n00_X9_modularOf_65, zk_99_zs1_99_n00_X9_modularOf_62), zk_99_zs1_99_n00_X9_modularOf_66), (((((0, 11, bg_410), (0, 0, 0)), zO1), zO2), zO3)), (17, (0, 0)))
theorem ev_X9_modularOf_119 : f_X9_modularOfa [zR 1, zI 0] h0_X9_modularOf_119 (zrk (zI 4294967296) h1_X9_modularOf_119) = true := by decide +kernel
noncomputable def g_X9_modularOf_119 {d : Nat} : List zV → zH d → zP d → Bool := zsmyM [(0, 0), (1, 21), (1, 20), (1, 22), (1, 33), (1, 3), (1, 31), (1, 32), (1, 26), (1, 27), (1, 4), (1, 29), (1, 30), (1, 35), (1, 34), (1, 36), (1, 6)] [zR 1, zI 0] h0_X9_modularOf_119 (zI 4294967296) h1_X9_modularOf_119
theorem mg_X9_modularOf_119 {d : Nat} : zMet (d := d) X_X9_modularOf yX9_modularOf 19 g_X9_modularOf_119 := zMet_smM m_X9_modularOfa ev_X9_modularOf_119
