section
/-! the class by summaries, by program -/
noncomputable def bX7_raisea_84 {d : Nat} (P : zP d) (r17 : zK d) : zK d := (xincR 6 1 r17)
set_option maxRecDepth 100000 in
set_option maxHeartbeats 4000000 in
theorem sbX7_raisea_84 {d : Nat} [zGh] (P : zP d) (r17 : zK d) (hr17 : zSimJ 1 X_X7_raise 2 P 17 r17) : zSim X_X7_raise 2 P 84 (bX7_raisea_84 P r17) := by
  unfold bX7_raisea_84
  refine sm_iincR (pc := 84) (n := 6) dX7_raise_84 zc_i_1 ?_
  refine sm_goto (pc := 87) (tgt := 17) dX7_raise_87 (by decide) ?_
  exact hr17.use
noncomputable def lX7_raisea_55 {d : Nat} (P : zP d) (j84 : zK d) (r55 : zK d) : zK d := (xild 8 (xild 7 (xcmpS tgeR rlGe rhS rlS rhLt j84 (xild 4 (xald 3 (xlen (xcmpS tgeR rlGe rhS rlS rhLt j84 (xald 3 (xild 4 (xild 5 (xasQ 0 (fun v => v) (xincR 4 1 (xincR 8 1 r55)))))))))))))
set_option maxRecDepth 100000 in
set_option maxHeartbeats 4000000 in
theorem slX7_raisea_55 {d : Nat} [zGh] (P : zP d) (j84 : zK d) (r55 : zK d) (hj84 : zSimJ 1 X_X7_raise 2 P 84 j84) (hr55 : zSimJ 1 X_X7_raise 2 P 55 r55) : zSim X_X7_raise 2 P 55 (lX7_raisea_55 P j84 r55) := by
  unfold lX7_raisea_55
  refine sm_iload (pc := 55) (n := 8) dX7_raise_55 ?_
  refine sm_iload (pc := 57) (n := 7) dX7_raise_57 ?_
  refine sm_icmpS_ge (pc := 59) (tgt := 84) dX7_raise_59 (by decide) ?_ ?_
  · skip
    exact hj84.use
  · skip
    refine sm_iload (pc := 62) (n := 4) dX7_raise_62 ?_
    refine sm_aload_n (pc := 64) (n := 3) dX7_raise_64 rfl ?_
    refine sm_arraylength (pc := 65) dX7_raise_65 ?_
    refine sm_icmpS_ge (pc := 66) (tgt := 84) dX7_raise_66 (by decide) ?_ ?_
    · skip
      exact hj84.use
    · skip
      refine sm_aload_n (pc := 69) (n := 3) dX7_raise_69 rfl ?_
      refine sm_iload (pc := 70) (n := 4) dX7_raise_70 ?_
      refine sm_iload (pc := 72) (n := 5) dX7_raise_72 ?_
      refine sm_iastoreQ (pc := 74) dX7_raise_74 ?_
      refine sm_iincR (pc := 75) (n := 4) dX7_raise_75 zc_i_1 ?_
      refine sm_iincR (pc := 78) (n := 8) dX7_raise_78 zc_i_1 ?_
      refine sm_goto (pc := 81) (tgt := 55) dX7_raise_81 (by decide) ?_
      exact hr55.use
noncomputable def lX7_raisea_17 {d : Nat} (P : zP d) (r17 : zK d) (r9 : zK d) : zK d := (xild 6 (xald 1 (xlen (xcmpS tgeR rlGe rhS rlS rhLt (xincR 5 4294967295 r9) (xald 1 (xild 6 (xalQ 0 (xi2l (xild 2 (xi2l (xcS 2 0 0 (zstr g_X8_greatestDivisor) (xl2i (xist 7 (xild 7 (xild 5 (xbin zmulR (xald 1 (xild 6 (xalQ 0 (xjoin (bX7_raisea_84 P r17) (fun j84 => (xcmpS teqR rlEq rhEq rlNe rhNe (xpI 0 (xist 8 (xloop (fun r55 => (lX7_raisea_55 P j84 r55)) 100000))) j84))))))))))))))))))))))
set_option maxRecDepth 100000 in
set_option maxHeartbeats 4000000 in
theorem slX7_raisea_17 {d : Nat} [zGh] (P : zP d) (r17 : zK d) (r9 : zK d) (hr17 : zSimJ 1 X_X7_raise 2 P 17 r17) (hr9 : zSimJ 1 X_X7_raise 2 P 9 r9) : zSim X_X7_raise 2 P 17 (lX7_raisea_17 P r17 r9) := by
  unfold lX7_raisea_17
  refine sm_iload (pc := 17) (n := 6) dX7_raise_17 ?_
  refine sm_aload_n (pc := 19) (n := 1) dX7_raise_19 rfl ?_
  refine sm_arraylength (pc := 20) dX7_raise_20 ?_
  refine sm_icmpS_ge (pc := 21) (tgt := 90) dX7_raise_21 (by decide) ?_ ?_
  · skip
    refine sm_iincR (pc := 90) (n := 5) dX7_raise_90 zc_i_m1 ?_
    refine sm_goto (pc := 93) (tgt := 9) dX7_raise_93 (by decide) ?_
    exact hr9.use
  · skip
    refine sm_aload_n (pc := 24) (n := 1) dX7_raise_24 rfl ?_
    refine sm_iload (pc := 25) (n := 6) dX7_raise_25 ?_
    refine sm_ialoadQ (pc := 27) dX7_raise_27 ?_
    refine sm_i2l (pc := 28) dX7_raise_28 ?_
    refine sm_iload_n (pc := 29) (n := 2) dX7_raise_29 rfl ?_
    refine sm_i2l (pc := 30) dX7_raise_30 ?_
    refine sm_cS (pc := 31) (n := 2) (mc := 0) (ms := 0) (zMet_str mg_X8_greatestDivisor) (cr_X7_120 (X := X_X7_raise) (fr := 2) (frc := 1) (pc := 31) (mc := 0) (ms := 0) rfl (by decide) dX7_raise_31) ?_
    refine sm_l2i (pc := 34) dX7_raise_34 ?_
    refine sm_istore (pc := 35) (n := 7) dX7_raise_35 ?_
    refine sm_iload (pc := 37) (n := 7) dX7_raise_37 ?_
    refine sm_iload (pc := 39) (n := 5) dX7_raise_39 ?_
    refine sm_imulR (pc := 41) dX7_raise_41 ?_
    refine sm_aload_n (pc := 42) (n := 1) dX7_raise_42 rfl ?_
    refine sm_iload (pc := 43) (n := 6) dX7_raise_43 ?_
    refine sm_ialoadQ (pc := 45) dX7_raise_45 ?_
    refine sm_joinJ (pc := 46) (pc' := 84) (j := 1) (fun G0 hG0 => @sbX7_raisea_84 d G0 P r17 (hr17.mv hG0 (by decide))) (fun j84 hj84 => ?_)
    refine sm_icmpS_eq (pc := 46) (tgt := 52) dX7_raise_46 (by decide) ?_ ?_
    · skip
      refine sm_iconst (pc := 52) dX7_raise_52 zc_i_0 ?_
      refine sm_istore (pc := 53) (n := 8) dX7_raise_53 ?_
      exact (sm_loopJ (j := 1) (fun G1 hG1 r55 hr55 => @slX7_raisea_55 d G1 P j84 r55 (hj84.mv hG1 (by decide)) hr55) _).use
    · skip
      refine sm_goto (pc := 49) (tgt := 84) dX7_raise_49 (by decide) ?_
      exact hj84.use
noncomputable def lX7_raisea_9 {d : Nat} (P : zP d) (r9 : zK d) : zK d := (xild 5 (xif0S tleR rlS rhLe rlGt rhS (xild 4 (xiret P)) (xpI 0 (xist 6 (xloop (fun r17 => (lX7_raisea_17 P r17 r9)) 100000)))))
set_option maxRecDepth 100000 in
set_option maxHeartbeats 4000000 in
theorem slX7_raisea_9 {d : Nat} [zGh] (P : zP d) (r9 : zK d) (hr9 : zSimJ 1 X_X7_raise 2 P 9 r9) : zSim X_X7_raise 2 P 9 (lX7_raisea_9 P r9) := by
  unfold lX7_raisea_9
  refine sm_iload (pc := 9) (n := 5) dX7_raise_9 ?_
  refine sm_ifS_le (pc := 11) (tgt := 96) dX7_raise_11 (by decide) ?_ ?_
  · skip
    refine sm_iload (pc := 96) (n := 4) dX7_raise_96 ?_
    exact sm_ireturn (pc := 98) dX7_raise_98 rfl
  · skip
    refine sm_iconst (pc := 14) dX7_raise_14 zc_i_0 ?_
    refine sm_istore (pc := 15) (n := 6) dX7_raise_15 ?_
    exact (sm_loopJ (j := 1) (fun G1 hG1 r17 hr17 => @slX7_raisea_17 d G1 P r17 r9 hr17 (hr9.mv hG1 (by decide))) _).use
noncomputable def b_X7_raisea {d : Nat} (P : zP d) : zK d := (xpI 0 (xist 4 (xald 0 (xgfI 23 0 (xist 5 (xloop (fun r9 => (lX7_raisea_9 P r9)) 100000))))))
set_option maxRecDepth 100000 in
set_option maxHeartbeats 4000000 in
theorem s_X7_raisea {d : Nat} [zGh] (P : zP d) : zSim X_X7_raise 2 P 0 (b_X7_raisea P) := by
  unfold b_X7_raisea
  refine sm_iconst (pc := 0) dX7_raise_0 zc_i_0 ?_
  refine sm_istore (pc := 1) (n := 4) dX7_raise_1 ?_
  refine sm_aload_n (pc := 3) (n := 0) dX7_raise_3 rfl ?_
  refine gf_X7_9 (pc := 4) rfl dX7_raise_4 ?_
  refine sm_istore (pc := 7) (n := 5) dX7_raise_7 ?_
  exact (sm_loopJ (j := 1) (fun G1 hG1 r9 hr9 => @slX7_raisea_9 d G1 P r9 hr9) _).use
noncomputable def f_X7_raisea {d : Nat} : List zV → zH d → zP d → Bool := zfn 9 b_X7_raisea
theorem m_X7_raisea {d : Nat} : zMet (d := d) X_X7_raise yX7_raise 2 f_X7_raisea := zmet_mk (X := X_X7_raise) (by decide) rfl rfl s_X7_raisea

noncomputable def zk_99_zs1_64_X7_raise_0 : zT 1 := @Prod.mk (zT 0) (zT 0) (23, 14, 0x800000000d800000000c800000000b800000000a800000000980000000088000000007800000000680000000058000000004800000000380000000020000000001) (0, 1, 1)
noncomputable def h0_X7_raise_0 : zH 2 := (show zT 2 from (zk_99_zs1_64_X7_raise_0, ((0, 1, 0), (0, 0, 0))), (3, (0, 0)))
noncomputable def h1_X7_raise_0 : zH 2 := (show zT 2 from (zk_99_zs1_64_X7_raise_0, ((0, 1, 1), (0, 0, 0))), (3, (0, 0)))
theorem ev_X7_raise_0 : f_X7_raisea [zR 1, zR 2, zI 1, zR 3] h0_X7_raise_0 (zrk (zI 1) h1_X7_raise_0) = true := by decide +kernel
noncomputable def g_X7_raise_0 {d : Nat} : List zV → zH d → zP d → Bool := zsmy [(0, 0), (0, 1), (0, 3)] [zR 1, zR 2, zI 1, zR 3] h0_X7_raise_0 (zI 1) h1_X7_raise_0
theorem mg_X7_raise_0 {d : Nat} : zMet (d := d) X_X7_raise yX7_raise 2 g_X7_raise_0 := zMet_sm m_X7_raisea ev_X7_raise_0
noncomputable def h0_X7_raise_1 : zH 2 := (show zT 2 from (zk_99_zs1_64_X7_raise_0, ((0, 1, 1), (0, 0, 0))), (3, (0, 0)))
noncomputable def h1_X7_raise_1 : zH 2 := (show zT 2 from (zk_99_zs1_64_X7_raise_0, ((0, 1, 1), (0, 0, 0))), (3, (0, 0)))
theorem ev_X7_raise_1 : f_X7_raisea [zR 1, zR 2, zI 2, zR 3] h0_X7_raise_1 (zrk (zI 1) h1_X7_raise_1) = true := by decide +kernel
noncomputable def g_X7_raise_1 {d : Nat} : List zV → zH d → zP d → Bool := zsmy [(0, 0), (0, 1), (0, 3)] [zR 1, zR 2, zI 2, zR 3] h0_X7_raise_1 (zI 1) h1_X7_raise_1
theorem mg_X7_raise_1 {d : Nat} : zMet (d := d) X_X7_raise yX7_raise 2 g_X7_raise_1 := zMet_sm m_X7_raisea ev_X7_raise_1
noncomputable def h0_X7_raise_2 : zH 2 := (show zT 2 from (zk_99_zs1_64_X7_raise_0, ((0, 1, 1), (0, 0, 0))), (3, (0, 0)))
noncomputable def h1_X7_raise_2 : zH 2 := (show zT 2 from (zk_99_zs1_64_X7_raise_0, ((0, 1, 1), (0, 0, 0))), (3, (0, 0)))
theorem ev_X7_raise_2 : f_X7_raisea [zR 1, zR 2, zI 3, zR 3] h0_X7_raise_2 (zrk (zI 1) h1_X7_raise_2) = true := by decide +kernel
noncomputable def g_X7_raise_2 {d : Nat} : List zV → zH d → zP d → Bool := zsmy [(0, 0), (0, 1), (0, 3)] [zR 1, zR 2, zI 3, zR 3] h0_X7_raise_2 (zI 1) h1_X7_raise_2
theorem mg_X7_raise_2 {d : Nat} : zMet (d := d) X_X7_raise yX7_raise 2 g_X7_raise_2 := zMet_sm m_X7_raisea ev_X7_raise_2
noncomputable def h0_X7_raise_3 : zH 2 := (show zT 2 from (zk_99_zs1_64_X7_raise_0, ((0, 1, 1), (0, 0, 0))), (3, (0, 0)))
noncomputable def h1_X7_raise_3 : zH 2 := (show zT 2 from (zk_99_zs1_64_X7_raise_0, ((0, 1, 1), (0, 0, 0))), (3, (0, 0)))
theorem ev_X7_raise_3 : f_X7_raisea [zR 1, zR 2, zI 4, zR 3] h0_X7_raise_3 (zrk (zI 1) h1_X7_raise_3) = true := by decide +kernel
noncomputable def g_X7_raise_3 {d : Nat} : List zV → zH d → zP d → Bool := zsmy [(0, 0), (0, 1), (0, 3)] [zR 1, zR 2, zI 4, zR 3] h0_X7_raise_3 (zI 1) h1_X7_raise_3
theorem mg_X7_raise_3 {d : Nat} : zMet (d := d) X_X7_raise yX7_raise 2 g_X7_raise_3 := zMet_sm m_X7_raisea ev_X7_raise_3
noncomputable def h0_X7_raise_4 : zH 2 := (show zT 2 from (zk_99_zs1_64_X7_raise_0, ((0, 1, 1), (0, 0, 0))), (3, (0, 0)))
noncomputable def h1_X7_raise_4 : zH 2 := (show zT 2 from (zk_99_zs1_64_X7_raise_0, ((0, 1, 1), (0, 0, 0))), (3, (0, 0)))
theorem ev_X7_raise_4 : f_X7_raisea [zR 1, zR 2, zI 5, zR 3] h0_X7_raise_4 (zrk (zI 1) h1_X7_raise_4) = true := by decide +kernel
noncomputable def g_X7_raise_4 {d : Nat} : List zV → zH d → zP d → Bool := zsmy [(0, 0), (0, 1), (0, 3)] [zR 1, zR 2, zI 5, zR 3] h0_X7_raise_4 (zI 1) h1_X7_raise_4
theorem mg_X7_raise_4 {d : Nat} : zMet (d := d) X_X7_raise yX7_raise 2 g_X7_raise_4 := zMet_sm m_X7_raisea ev_X7_raise_4
noncomputable def h0_X7_raise_5 : zH 2 := (show zT 2 from (zk_99_zs1_64_X7_raise_0, ((0, 1, 1), (0, 0, 0))), (3, (0, 0)))
noncomputable def h1_X7_raise_5 : zH 2 := (show zT 2 from (zk_99_zs1_64_X7_raise_0, ((0, 1, 1), (0, 0, 0))), (3, (0, 0)))
theorem ev_X7_raise_5 : f_X7_raisea [zR 1, zR 2, zI 6, zR 3] h0_X7_raise_5 (zrk (zI 1) h1_X7_raise_5) = true := by decide +kernel
noncomputable def g_X7_raise_5 {d : Nat} : List zV → zH d → zP d → Bool := zsmy [(0, 0), (0, 1), (0, 3)] [zR 1, zR 2, zI 6, zR 3] h0_X7_raise_5 (zI 1) h1_X7_raise_5
theorem mg_X7_raise_5 {d : Nat} : zMet (d := d) X_X7_raise yX7_raise 2 g_X7_raise_5 := zMet_sm m_X7_raisea ev_X7_raise_5
noncomputable def zk_99_zs1_64_X7_raise_1 : zC := (23, 14, 0x800000000d800000000c800000000b800000000a800000000980000000088000000007800000000680000000058000000004800000000380000000020000000002)
noncomputable def h0_X7_raise_6 : zH 2 := (show zT 2 from ((zk_99_zs1_64_X7_raise_1, (0, 1, 2)), ((0, 2, 0), (0, 0, 0))), (3, (0, 0)))
noncomputable def h1_X7_raise_6 : zH 2 := (show zT 2 from ((zk_99_zs1_64_X7_raise_1, (0, 1, 2)), ((0, 2, 2), (0, 0, 0))), (3, (0, 0)))
theorem ev_X7_raise_6 : f_X7_raisea [zR 1, zR 2, zI 1, zR 3] h0_X7_raise_6 (zrk (zI 1) h1_X7_raise_6) = true := by decide +kernel
noncomputable def g_X7_raise_6 {d : Nat} : List zV → zH d → zP d → Bool := zsmy [(0, 0), (0, 1), (0, 3)] [zR 1, zR 2, zI 1, zR 3] h0_X7_raise_6 (zI 1) h1_X7_raise_6
theorem mg_X7_raise_6 {d : Nat} : zMet (d := d) X_X7_raise yX7_raise 2 g_X7_raise_6 := zMet_sm m_X7_raisea ev_X7_raise_6
noncomputable def h0_X7_raise_7 : zH 2 := (show zT 2 from ((zk_99_zs1_64_X7_raise_1, (0, 1, 2)), ((0, 2, 2), (0, 0, 0))), (3, (0, 0)))
noncomputable def h1_X7_raise_7 : zH 2 := (show zT 2 from ((zk_99_zs1_64_X7_raise_1, (0, 1, 2)), ((0, 2, 0x10000000001), (0, 0, 0))), (3, (0, 0)))
theorem ev_X7_raise_7 : f_X7_raisea [zR 1, zR 2, zI 2, zR 3] h0_X7_raise_7 (zrk (zI 2) h1_X7_raise_7) = true := by decide +kernel
noncomputable def g_X7_raise_7 {d : Nat} : List zV → zH d → zP d → Bool := zsmy [(0, 0), (0, 1), (0, 3)] [zR 1, zR 2, zI 2, zR 3] h0_X7_raise_7 (zI 2) h1_X7_raise_7
theorem mg_X7_raise_7 {d : Nat} : zMet (d := d) X_X7_raise yX7_raise 2 g_X7_raise_7 := zMet_sm m_X7_raisea ev_X7_raise_7
noncomputable def h0_X7_raise_8 : zH 2 := (show zT 2 from ((zk_99_zs1_64_X7_raise_1, (0, 1, 2)), ((0, 2, 0x10000000001), (0, 0, 0))), (3, (0, 0)))
noncomputable def h1_X7_raise_8 : zH 2 := (show zT 2 from ((zk_99_zs1_64_X7_raise_1, (0, 1, 2)), ((0, 2, 0x10000000002), (0, 0, 0))), (3, (0, 0)))
theorem ev_X7_raise_8 : f_X7_raisea [zR 1, zR 2, zI 3, zR 3] h0_X7_raise_8 (zrk (zI 1) h1_X7_raise_8) = true := by decide +kernel
noncomputable def g_X7_raise_8 {d : Nat} : List zV → zH d → zP d → Bool := zsmy [(0, 0), (0, 1), (0, 3)] [zR 1, zR 2, zI 3, zR 3] h0_X7_raise_8 (zI 1) h1_X7_raise_8
theorem mg_X7_raise_8 {d : Nat} : zMet (d := d) X_X7_raise yX7_raise 2 g_X7_raise_8 := zMet_sm m_X7_raisea ev_X7_raise_8
noncomputable def h0_X7_raise_9 : zH 2 := (show zT 2 from ((zk_99_zs1_64_X7_raise_1, (0, 1, 2)), ((0, 2, 0x10000000002), (0, 0, 0))), (3, (0, 0)))
noncomputable def h1_X7_raise_9 : zH 2 := (show zT 2 from ((zk_99_zs1_64_X7_raise_1, (0, 1, 2)), ((0, 2, 0x10000000001), (0, 0, 0))), (3, (0, 0)))
theorem ev_X7_raise_9 : f_X7_raisea [zR 1, zR 2, zI 4, zR 3] h0_X7_raise_9 (zrk (zI 2) h1_X7_raise_9) = true := by decide +kernel
noncomputable def g_X7_raise_9 {d : Nat} : List zV → zH d → zP d → Bool := zsmy [(0, 0), (0, 1), (0, 3)] [zR 1, zR 2, zI 4, zR 3] h0_X7_raise_9 (zI 2) h1_X7_raise_9
theorem mg_X7_raise_9 {d : Nat} : zMet (d := d) X_X7_raise yX7_raise 2 g_X7_raise_9 := zMet_sm m_X7_raisea ev_X7_raise_9
noncomputable def h0_X7_raise_10 : zH 2 := (show zT 2 from ((zk_99_zs1_64_X7_raise_1, (0, 1, 2)), ((0, 2, 0x10000000001), (0, 0, 0))), (3, (0, 0)))
noncomputable def h1_X7_raise_10 : zH 2 := (show zT 2 from ((zk_99_zs1_64_X7_raise_1, (0, 1, 2)), ((0, 2, 0x10000000002), (0, 0, 0))), (3, (0, 0)))
theorem ev_X7_raise_10 : f_X7_raisea [zR 1, zR 2, zI 5, zR 3] h0_X7_raise_10 (zrk (zI 1) h1_X7_raise_10) = true := by decide +kernel
noncomputable def g_X7_raise_10 {d : Nat} : List zV → zH d → zP d → Bool := zsmy [(0, 0), (0, 1), (0, 3)] [zR 1, zR 2, zI 5, zR 3] h0_X7_raise_10 (zI 1) h1_X7_raise_10
theorem mg_X7_raise_10 {d : Nat} : zMet (d := d) X_X7_raise yX7_raise 2 g_X7_raise_10 := zMet_sm m_X7_raisea ev_X7_raise_10
noncomputable def h0_X7_raise_11 : zH 2 := (show zT 2 from ((zk_99_zs1_64_X7_raise_1, (0, 1, 2)), ((0, 2, 0x10000000002), (0, 0, 0))), (3, (0, 0)))
noncomputable def h1_X7_raise_11 : zH 2 := (show zT 2 from ((zk_99_zs1_64_X7_raise_1, (0, 1, 2)), ((0, 2, 0x10000000001), (0, 0, 0))), (3, (0, 0)))
theorem ev_X7_raise_11 : f_X7_raisea [zR 1, zR 2, zI 6, zR 3] h0_X7_raise_11 (zrk (zI 2) h1_X7_raise_11) = true := by decide +kernel
noncomputable def g_X7_raise_11 {d : Nat} : List zV → zH d → zP d → Bool := zsmy [(0, 0), (0, 1), (0, 3)] [zR 1, zR 2, zI 6, zR 3] h0_X7_raise_11 (zI 2) h1_X7_raise_11
theorem mg_X7_raise_11 {d : Nat} : zMet (d := d) X_X7_raise yX7_raise 2 g_X7_raise_11 := zMet_sm m_X7_raisea ev_X7_raise_11
noncomputable def h0_X7_raise_12 : zH 2 := (show zT 2 from ((zk_99_zs1_64_X7_raise_1, (0, 2, 0x10000000001)), ((0, 2, 0x10000000001), (0, 0, 0))), (3, (0, 0)))
noncomputable def h1_X7_raise_12 : zH 2 := (show zT 2 from ((zk_99_zs1_64_X7_raise_1, (0, 2, 0x10000000001)), ((0, 2, 0x10000000001), (0, 0, 0))), (3, (0, 0)))
theorem ev_X7_raise_12 : f_X7_raisea [zR 1, zR 2, zI 1, zR 3] h0_X7_raise_12 (zrk (zI 2) h1_X7_raise_12) = true := by decide +kernel
noncomputable def g_X7_raise_12 {d : Nat} : List zV → zH d → zP d → Bool := zsmy [(0, 0), (0, 1), (0, 3)] [zR 1, zR 2, zI 1, zR 3] h0_X7_raise_12 (zI 2) h1_X7_raise_12
theorem mg_X7_raise_12 {d : Nat} : zMet (d := d) X_X7_raise yX7_raise 2 g_X7_raise_12 := zMet_sm m_X7_raisea ev_X7_raise_12
noncomputable def h0_X7_raise_13 : zH 2 := (show zT 2 from ((zk_99_zs1_64_X7_raise_1, (0, 2, 0x10000000001)), ((0, 2, 0x10000000001), (0, 0, 0))), (3, (0, 0)))
noncomputable def h1_X7_raise_13 : zH 2 := (show zT 2 from ((zk_99_zs1_64_X7_raise_1, (0, 2, 0x10000000001)), ((0, 2, 0x10000000001), (0, 0, 0))), (3, (0, 0)))
theorem ev_X7_raise_13 : f_X7_raisea [zR 1, zR 2, zI 2, zR 3] h0_X7_raise_13 (zrk (zI 2) h1_X7_raise_13) = true := by decide +kernel
noncomputable def g_X7_raise_13 {d : Nat} : List zV → zH d → zP d → Bool := zsmy [(0, 0), (0, 1), (0, 3)] [zR 1, zR 2, zI 2, zR 3] h0_X7_raise_13 (zI 2) h1_X7_raise_13
theorem mg_X7_raise_13 {d : Nat} : zMet (d := d) X_X7_raise yX7_raise 2 g_X7_raise_13 := zMet_sm m_X7_raisea ev_X7_raise_13
noncomputable def h0_X7_raise_14 : zH 2 := (show zT 2 from ((zk_99_zs1_64_X7_raise_1, (0, 2, 0x10000000001)), ((0, 2, 0x10000000001), (0, 0, 0))), (3, (0, 0)))
noncomputable def h1_X7_raise_14 : zH 2 := (show zT 2 from ((zk_99_zs1_64_X7_raise_1, (0, 2, 0x10000000001)), ((0, 2, 0x10000000001), (0, 0, 0))), (3, (0, 0)))
theorem ev_X7_raise_14 : f_X7_raisea [zR 1, zR 2, zI 3, zR 3] h0_X7_raise_14 (zrk (zI 2) h1_X7_raise_14) = true := by decide +kernel
noncomputable def g_X7_raise_14 {d : Nat} : List zV → zH d → zP d → Bool := zsmy [(0, 0), (0, 1), (0, 3)] [zR 1, zR 2, zI 3, zR 3] h0_X7_raise_14 (zI 2) h1_X7_raise_14
theorem mg_X7_raise_14 {d : Nat} : zMet (d := d) X_X7_raise yX7_raise 2 g_X7_raise_14 := zMet_sm m_X7_raisea ev_X7_raise_14
noncomputable def h0_X7_raise_15 : zH 2 := (show zT 2 from ((zk_99_zs1_64_X7_raise_1, (0, 2, 0x10000000001)), ((0, 2, 0x10000000001), (0, 0, 0))), (3, (0, 0)))
noncomputable def h1_X7_raise_15 : zH 2 := (show zT 2 from ((zk_99_zs1_64_X7_raise_1, (0, 2, 0x10000000001)), ((0, 2, 0x10000000001), (0, 0, 0))), (3, (0, 0)))
theorem ev_X7_raise_15 : f_X7_raisea [zR 1, zR 2, zI 4, zR 3] h0_X7_raise_15 (zrk (zI 2) h1_X7_raise_15) = true := by decide +kernel
noncomputable def g_X7_raise_15 {d : Nat} : List zV → zH d → zP d → Bool := zsmy [(0, 0), (0, 1), (0, 3)] [zR 1, zR 2, zI 4, zR 3] h0_X7_raise_15 (zI 2) h1_X7_raise_15
theorem mg_X7_raise_15 {d : Nat} : zMet (d := d) X_X7_raise yX7_raise 2 g_X7_raise_15 := zMet_sm m_X7_raisea ev_X7_raise_15
noncomputable def h0_X7_raise_16 : zH 2 := (show zT 2 from ((zk_99_zs1_64_X7_raise_1, (0, 2, 0x10000000001)), ((0, 2, 0x10000000001), (0, 0, 0))), (3, (0, 0)))
noncomputable def h1_X7_raise_16 : zH 2 := (show zT 2 from ((zk_99_zs1_64_X7_raise_1, (0, 2, 0x10000000001)), ((0, 2, 0x10000000001), (0, 0, 0))), (3, (0, 0)))
theorem ev_X7_raise_16 : f_X7_raisea [zR 1, zR 2, zI 5, zR 3] h0_X7_raise_16 (zrk (zI 2) h1_X7_raise_16) = true := by decide +kernel
noncomputable def g_X7_raise_16 {d : Nat} : List zV → zH d → zP d → Bool := zsmy [(0, 0), (0, 1), (0, 3)] [zR 1, zR 2, zI 5, zR 3] h0_X7_raise_16 (zI 2) h1_X7_raise_16
theorem mg_X7_raise_16 {d : Nat} : zMet (d := d) X_X7_raise yX7_raise 2 g_X7_raise_16 := zMet_sm m_X7_raisea ev_X7_raise_16
noncomputable def h0_X7_raise_17 : zH 2 := (show zT 2 from ((zk_99_zs1_64_X7_raise_1, (0, 2, 0x10000000001)), ((0, 2, 0x10000000001), (0, 0, 0))), (3, (0, 0)))
noncomputable def h1_X7_raise_17 : zH 2 := (show zT 2 from ((zk_99_zs1_64_X7_raise_1, (0, 2, 0x10000000001)), ((0, 2, 0x10000000001), (0, 0, 0))), (3, (0, 0)))
theorem ev_X7_raise_17 : f_X7_raisea [zR 1, zR 2, zI 6, zR 3] h0_X7_raise_17 (zrk (zI 2) h1_X7_raise_17) = true := by decide +kernel
noncomputable def g_X7_raise_17 {d : Nat} : List zV → zH d → zP d → Bool := zsmy [(0, 0), (0, 1), (0, 3)] [zR 1, zR 2, zI 6, zR 3] h0_X7_raise_17 (zI 2) h1_X7_raise_17
theorem mg_X7_raise_17 {d : Nat} : zMet (d := d) X_X7_raise yX7_raise 2 g_X7_raise_17 := zMet_sm m_X7_raisea ev_X7_raise_17
noncomputable def zk_99_zs1_64_X7_raise_2 : zC := (23, 14, 0x800000000d800000000c800000000b800000000a800000000980000000088000000007800000000680000000058000000004800000000380000000020000000003)
noncomputable def h0_X7_raise_18 : zH 2 := (show zT 2 from ((zk_99_zs1_64_X7_raise_2, (0, 1, 3)), ((0, 3, 0), (0, 0, 0))), (3, (0, 0)))
noncomputable def h1_X7_raise_18 : zH 2 := (show zT 2 from ((zk_99_zs1_64_X7_raise_2, (0, 1, 3)), ((0, 3, 3), (0, 0, 0))), (3, (0, 0)))
theorem ev_X7_raise_18 : f_X7_raisea [zR 1, zR 2, zI 1, zR 3] h0_X7_raise_18 (zrk (zI 1) h1_X7_raise_18) = true := by decide +kernel
noncomputable def g_X7_raise_18 {d : Nat} : List zV → zH d → zP d → Bool := zsmy [(0, 0), (0, 1), (0, 3)] [zR 1, zR 2, zI 1, zR 3] h0_X7_raise_18 (zI 1) h1_X7_raise_18
theorem mg_X7_raise_18 {d : Nat} : zMet (d := d) X_X7_raise yX7_raise 2 g_X7_raise_18 := zMet_sm m_X7_raisea ev_X7_raise_18
noncomputable def h0_X7_raise_19 : zH 2 := (show zT 2 from ((zk_99_zs1_64_X7_raise_2, (0, 1, 3)), ((0, 3, 3), (0, 0, 0))), (3, (0, 0)))
noncomputable def h1_X7_raise_19 : zH 2 := (show zT 2 from ((zk_99_zs1_64_X7_raise_2, (0, 1, 3)), ((0, 3, 3), (0, 0, 0))), (3, (0, 0)))
theorem ev_X7_raise_19 : f_X7_raisea [zR 1, zR 2, zI 2, zR 3] h0_X7_raise_19 (zrk (zI 1) h1_X7_raise_19) = true := by decide +kernel
noncomputable def g_X7_raise_19 {d : Nat} : List zV → zH d → zP d → Bool := zsmy [(0, 0), (0, 1), (0, 3)] [zR 1, zR 2, zI 2, zR 3] h0_X7_raise_19 (zI 1) h1_X7_raise_19
theorem mg_X7_raise_19 {d : Nat} : zMet (d := d) X_X7_raise yX7_raise 2 g_X7_raise_19 := zMet_sm m_X7_raisea ev_X7_raise_19
noncomputable def h0_X7_raise_20 : zH 2 := (show zT 2 from ((zk_99_zs1_64_X7_raise_2, (0, 1, 3)), ((0, 3, 3), (0, 0, 0))), (3, (0, 0)))
noncomputable def h1_X7_raise_20 : zH 2 := (show zT 2 from ((zk_99_zs1_64_X7_raise_2, (0, 1, 3)), ((0, 3, 0x100000000010000000001), (0, 0, 0))), (3, (0, 0)))
theorem ev_X7_raise_20 : f_X7_raisea [zR 1, zR 2, zI 3, zR 3] h0_X7_raise_20 (zrk (zI 3) h1_X7_raise_20) = true := by decide +kernel
noncomputable def g_X7_raise_20 {d : Nat} : List zV → zH d → zP d → Bool := zsmy [(0, 0), (0, 1), (0, 3)] [zR 1, zR 2, zI 3, zR 3] h0_X7_raise_20 (zI 3) h1_X7_raise_20
theorem mg_X7_raise_20 {d : Nat} : zMet (d := d) X_X7_raise yX7_raise 2 g_X7_raise_20 := zMet_sm m_X7_raisea ev_X7_raise_20
noncomputable def h0_X7_raise_21 : zH 2 := (show zT 2 from ((zk_99_zs1_64_X7_raise_2, (0, 1, 3)), ((0, 3, 0x100000000010000000001), (0, 0, 0))), (3, (0, 0)))
noncomputable def h1_X7_raise_21 : zH 2 := (show zT 2 from ((zk_99_zs1_64_X7_raise_2, (0, 1, 3)), ((0, 3, 0x100000000010000000003), (0, 0, 0))), (3, (0, 0)))
theorem ev_X7_raise_21 : f_X7_raisea [zR 1, zR 2, zI 4, zR 3] h0_X7_raise_21 (zrk (zI 1) h1_X7_raise_21) = true := by decide +kernel
noncomputable def g_X7_raise_21 {d : Nat} : List zV → zH d → zP d → Bool := zsmy [(0, 0), (0, 1), (0, 3)] [zR 1, zR 2, zI 4, zR 3] h0_X7_raise_21 (zI 1) h1_X7_raise_21
theorem mg_X7_raise_21 {d : Nat} : zMet (d := d) X_X7_raise yX7_raise 2 g_X7_raise_21 := zMet_sm m_X7_raisea ev_X7_raise_21
noncomputable def h0_X7_raise_22 : zH 2 := (show zT 2 from ((zk_99_zs1_64_X7_raise_2, (0, 1, 3)), ((0, 3, 0x100000000010000000003), (0, 0, 0))), (3, (0, 0)))
noncomputable def h1_X7_raise_22 : zH 2 := (show zT 2 from ((zk_99_zs1_64_X7_raise_2, (0, 1, 3)), ((0, 3, 0x100000000010000000003), (0, 0, 0))), (3, (0, 0)))
theorem ev_X7_raise_22 : f_X7_raisea [zR 1, zR 2, zI 5, zR 3] h0_X7_raise_22 (zrk (zI 1) h1_X7_raise_22) = true := by decide +kernel
noncomputable def g_X7_raise_22 {d : Nat} : List zV → zH d → zP d → Bool := zsmy [(0, 0), (0, 1), (0, 3)] [zR 1, zR 2, zI 5, zR 3] h0_X7_raise_22 (zI 1) h1_X7_raise_22
theorem mg_X7_raise_22 {d : Nat} : zMet (d := d) X_X7_raise yX7_raise 2 g_X7_raise_22 := zMet_sm m_X7_raisea ev_X7_raise_22
noncomputable def h0_X7_raise_23 : zH 2 := (show zT 2 from ((zk_99_zs1_64_X7_raise_2, (0, 1, 3)), ((0, 3, 0x100000000010000000003), (0, 0, 0))), (3, (0, 0)))
noncomputable def h1_X7_raise_23 : zH 2 := (show zT 2 from ((zk_99_zs1_64_X7_raise_2, (0, 1, 3)), ((0, 3, 0x100000000010000000001), (0, 0, 0))), (3, (0, 0)))
theorem ev_X7_raise_23 : f_X7_raisea [zR 1, zR 2, zI 6, zR 3] h0_X7_raise_23 (zrk (zI 3) h1_X7_raise_23) = true := by decide +kernel
noncomputable def g_X7_raise_23 {d : Nat} : List zV → zH d → zP d → Bool := zsmy [(0, 0), (0, 1), (0, 3)] [zR 1, zR 2, zI 6, zR 3] h0_X7_raise_23 (zI 3) h1_X7_raise_23
theorem mg_X7_raise_23 {d : Nat} : zMet (d := d) X_X7_raise yX7_raise 2 g_X7_raise_23 := zMet_sm m_X7_raisea ev_X7_raise_23
noncomputable def h0_X7_raise_24 : zH 2 := (show zT 2 from ((zk_99_zs1_64_X7_raise_2, (0, 2, 0x10000000002)), ((0, 3, 0x100000000010000000001), (0, 0, 0))), (3, (0, 0)))
noncomputable def h1_X7_raise_24 : zH 2 := (show zT 2 from ((zk_99_zs1_64_X7_raise_2, (0, 2, 0x10000000002)), ((0, 3, 0x100000000010000000002), (0, 0, 0))), (3, (0, 0)))
theorem ev_X7_raise_24 : f_X7_raisea [zR 1, zR 2, zI 1, zR 3] h0_X7_raise_24 (zrk (zI 2) h1_X7_raise_24) = true := by decide +kernel
noncomputable def g_X7_raise_24 {d : Nat} : List zV → zH d → zP d → Bool := zsmy [(0, 0), (0, 1), (0, 3)] [zR 1, zR 2, zI 1, zR 3] h0_X7_raise_24 (zI 2) h1_X7_raise_24
theorem mg_X7_raise_24 {d : Nat} : zMet (d := d) X_X7_raise yX7_raise 2 g_X7_raise_24 := zMet_sm m_X7_raisea ev_X7_raise_24
noncomputable def h0_X7_raise_25 : zH 2 := (show zT 2 from ((zk_99_zs1_64_X7_raise_2, (0, 2, 0x10000000002)), ((0, 3, 0x100000000010000000002), (0, 0, 0))), (3, (0, 0)))
noncomputable def h1_X7_raise_25 : zH 2 := (show zT 2 from ((zk_99_zs1_64_X7_raise_2, (0, 2, 0x10000000002)), ((0, 3, 0x100000000010000000001), (0, 0, 0))), (3, (0, 0)))
theorem ev_X7_raise_25 : f_X7_raisea [zR 1, zR 2, zI 2, zR 3] h0_X7_raise_25 (zrk (zI 3) h1_X7_raise_25) = true := by decide +kernel
noncomputable def g_X7_raise_25 {d : Nat} : List zV → zH d → zP d → Bool := zsmy [(0, 0), (0, 1), (0, 3)] [zR 1, zR 2, zI 2, zR 3] h0_X7_raise_25 (zI 3) h1_X7_raise_25
theorem mg_X7_raise_25 {d : Nat} : zMet (d := d) X_X7_raise yX7_raise 2 g_X7_raise_25 := zMet_sm m_X7_raisea ev_X7_raise_25
noncomputable def h0_X7_raise_26 : zH 2 := (show zT 2 from ((zk_99_zs1_64_X7_raise_2, (0, 2, 0x10000000002)), ((0, 3, 0x100000000010000000001), (0, 0, 0))), (3, (0, 0)))
noncomputable def h1_X7_raise_26 : zH 2 := (show zT 2 from ((zk_99_zs1_64_X7_raise_2, (0, 2, 0x10000000002)), ((0, 3, 0x100000000010000000002), (0, 0, 0))), (3, (0, 0)))
theorem ev_X7_raise_26 : f_X7_raisea [zR 1, zR 2, zI 3, zR 3] h0_X7_raise_26 (zrk (zI 2) h1_X7_raise_26) = true := by decide +kernel
noncomputable def g_X7_raise_26 {d : Nat} : List zV → zH d → zP d → Bool := zsmy [(0, 0), (0, 1), (0, 3)] [zR 1, zR 2, zI 3, zR 3] h0_X7_raise_26 (zI 2) h1_X7_raise_26
theorem mg_X7_raise_26 {d : Nat} : zMet (d := d) X_X7_raise yX7_raise 2 g_X7_raise_26 := zMet_sm m_X7_raisea ev_X7_raise_26
noncomputable def h0_X7_raise_27 : zH 2 := (show zT 2 from ((zk_99_zs1_64_X7_raise_2, (0, 2, 0x10000000002)), ((0, 3, 0x100000000010000000002), (0, 0, 0))), (3, (0, 0)))
noncomputable def h1_X7_raise_27 : zH 2 := (show zT 2 from ((zk_99_zs1_64_X7_raise_2, (0, 2, 0x10000000002)), ((0, 3, 0x100000000010000000001), (0, 0, 0))), (3, (0, 0)))
theorem ev_X7_raise_27 : f_X7_raisea [zR 1, zR 2, zI 4, zR 3] h0_X7_raise_27 (zrk (zI 3) h1_X7_raise_27) = true := by decide +kernel
noncomputable def g_X7_raise_27 {d : Nat} : List zV → zH d → zP d → Bool := zsmy [(0, 0), (0, 1), (0, 3)] [zR 1, zR 2, zI 4, zR 3] h0_X7_raise_27 (zI 3) h1_X7_raise_27
theorem mg_X7_raise_27 {d : Nat} : zMet (d := d) X_X7_raise yX7_raise 2 g_X7_raise_27 := zMet_sm m_X7_raisea ev_X7_raise_27
noncomputable def h0_X7_raise_28 : zH 2 := (show zT 2 from ((zk_99_zs1_64_X7_raise_2, (0, 2, 0x10000000002)), ((0, 3, 0x100000000010000000001), (0, 0, 0))), (3, (0, 0)))
noncomputable def h1_X7_raise_28 : zH 2 := (show zT 2 from ((zk_99_zs1_64_X7_raise_2, (0, 2, 0x10000000002)), ((0, 3, 0x100000000010000000002), (0, 0, 0))), (3, (0, 0)))
theorem ev_X7_raise_28 : f_X7_raisea [zR 1, zR 2, zI 5, zR 3] h0_X7_raise_28 (zrk (zI 2) h1_X7_raise_28) = true := by decide +kernel
noncomputable def g_X7_raise_28 {d : Nat} : List zV → zH d → zP d → Bool := zsmy [(0, 0), (0, 1), (0, 3)] [zR 1, zR 2, zI 5, zR 3] h0_X7_raise_28 (zI 2) h1_X7_raise_28
theorem mg_X7_raise_28 {d : Nat} : zMet (d := d) X_X7_raise yX7_raise 2 g_X7_raise_28 := zMet_sm m_X7_raisea ev_X7_raise_28
noncomputable def h0_X7_raise_29 : zH 2 := (show zT 2 from ((zk_99_zs1_64_X7_raise_2, (0, 2, 0x10000000002)), ((0, 3, 0x100000000010000000002), (0, 0, 0))), (3, (0, 0)))
noncomputable def h1_X7_raise_29 : zH 2 := (show zT 2 from ((zk_99_zs1_64_X7_raise_2, (0, 2, 0x10000000002)), ((0, 3, 0x100000000010000000001), (0, 0, 0))), (3, (0, 0)))
theorem ev_X7_raise_29 : f_X7_raisea [zR 1, zR 2, zI 6, zR 3] h0_X7_raise_29 (zrk (zI 3) h1_X7_raise_29) = true := by decide +kernel
noncomputable def g_X7_raise_29 {d : Nat} : List zV → zH d → zP d → Bool := zsmy [(0, 0), (0, 1), (0, 3)] [zR 1, zR 2, zI 6, zR 3] h0_X7_raise_29 (zI 3) h1_X7_raise_29
theorem mg_X7_raise_29 {d : Nat} : zMet (d := d) X_X7_raise yX7_raise 2 g_X7_raise_29 := zMet_sm m_X7_raisea ev_X7_raise_29
noncomputable def h0_X7_raise_30 : zH 2 := (show zT 2 from ((zk_99_zs1_64_X7_raise_2, (0, 3, 0x100000000010000000001)), ((0, 3, 0x100000000010000000001), (0, 0, 0))), (3, (0, 0)))
noncomputable def h1_X7_raise_30 : zH 2 := (show zT 2 from ((zk_99_zs1_64_X7_raise_2, (0, 3, 0x100000000010000000001)), ((0, 3, 0x100000000010000000001), (0, 0, 0))), (3, (0, 0)))
theorem ev_X7_raise_30 : f_X7_raisea [zR 1, zR 2, zI 1, zR 3] h0_X7_raise_30 (zrk (zI 3) h1_X7_raise_30) = true := by decide +kernel
noncomputable def g_X7_raise_30 {d : Nat} : List zV → zH d → zP d → Bool := zsmy [(0, 0), (0, 1), (0, 3)] [zR 1, zR 2, zI 1, zR 3] h0_X7_raise_30 (zI 3) h1_X7_raise_30
theorem mg_X7_raise_30 {d : Nat} : zMet (d := d) X_X7_raise yX7_raise 2 g_X7_raise_30 := zMet_sm m_X7_raisea ev_X7_raise_30
noncomputable def h0_X7_raise_31 : zH 2 := (show zT 2 from ((zk_99_zs1_64_X7_raise_2, (0, 3, 0x100000000010000000001)), ((0, 3, 0x100000000010000000001), (0, 0, 0))), (3, (0, 0)))
noncomputable def h1_X7_raise_31 : zH 2 := (show zT 2 from ((zk_99_zs1_64_X7_raise_2, (0, 3, 0x100000000010000000001)), ((0, 3, 0x100000000010000000001), (0, 0, 0))), (3, (0, 0)))
theorem ev_X7_raise_31 : f_X7_raisea [zR 1, zR 2, zI 2, zR 3] h0_X7_raise_31 (zrk (zI 3) h1_X7_raise_31) = true := by decide +kernel
noncomputable def g_X7_raise_31 {d : Nat} : List zV → zH d → zP d → Bool := zsmy [(0, 0), (0, 1), (0, 3)] [zR 1, zR 2, zI 2, zR 3] h0_X7_raise_31 (zI 3) h1_X7_raise_31
theorem mg_X7_raise_31 {d : Nat} : zMet (d := d) X_X7_raise yX7_raise 2 g_X7_raise_31 := zMet_sm m_X7_raisea ev_X7_raise_31
noncomputable def h0_X7_raise_32 : zH 2 := (show zT 2 from ((zk_99_zs1_64_X7_raise_2, (0, 3, 0x100000000010000000001)), ((0, 3, 0x100000000010000000001), (0, 0, 0))), (3, (0, 0)))
noncomputable def h1_X7_raise_32 : zH 2 := (show zT 2 from ((zk_99_zs1_64_X7_raise_2, (0, 3, 0x100000000010000000001)), ((0, 3, 0x100000000010000000001), (0, 0, 0))), (3, (0, 0)))
theorem ev_X7_raise_32 : f_X7_raisea [zR 1, zR 2, zI 3, zR 3] h0_X7_raise_32 (zrk (zI 3) h1_X7_raise_32) = true := by decide +kernel
noncomputable def g_X7_raise_32 {d : Nat} : List zV → zH d → zP d → Bool := zsmy [(0, 0), (0, 1), (0, 3)] [zR 1, zR 2, zI 3, zR 3] h0_X7_raise_32 (zI 3) h1_X7_raise_32
theorem mg_X7_raise_32 {d : Nat} : zMet (d := d) X_X7_raise yX7_raise 2 g_X7_raise_32 := zMet_sm m_X7_raisea ev_X7_raise_32
noncomputable def h0_X7_raise_33 : zH 2 := (show zT 2 from ((zk_99_zs1_64_X7_raise_2, (0, 3, 0x100000000010000000001)), ((0, 3, 0x100000000010000000001), (0, 0, 0))), (3, (0, 0)))
noncomputable def h1_X7_raise_33 : zH 2 := (show zT 2 from ((zk_99_zs1_64_X7_raise_2, (0, 3, 0x100000000010000000001)), ((0, 3, 0x100000000010000000001), (0, 0, 0))), (3, (0, 0)))
theorem ev_X7_raise_33 : f_X7_raisea [zR 1, zR 2, zI 4, zR 3] h0_X7_raise_33 (zrk (zI 3) h1_X7_raise_33) = true := by decide +kernel
noncomputable def g_X7_raise_33 {d : Nat} : List zV → zH d → zP d → Bool := zsmy [(0, 0), (0, 1), (0, 3)] [zR 1, zR 2, zI 4, zR 3] h0_X7_raise_33 (zI 3) h1_X7_raise_33
theorem mg_X7_raise_33 {d : Nat} : zMet (d := d) X_X7_raise yX7_raise 2 g_X7_raise_33 := zMet_sm m_X7_raisea ev_X7_raise_33
noncomputable def h0_X7_raise_34 : zH 2 := (show zT 2 from ((zk_99_zs1_64_X7_raise_2, (0, 3, 0x100000000010000000001)), ((0, 3, 0x100000000010000000001), (0, 0, 0))), (3, (0, 0)))
noncomputable def h1_X7_raise_34 : zH 2 := (show zT 2 from ((zk_99_zs1_64_X7_raise_2, (0, 3, 0x100000000010000000001)), ((0, 3, 0x100000000010000000001), (0, 0, 0))), (3, (0, 0)))
theorem ev_X7_raise_34 : f_X7_raisea [zR 1, zR 2, zI 5, zR 3] h0_X7_raise_34 (zrk (zI 3) h1_X7_raise_34) = true := by decide +kernel
noncomputable def g_X7_raise_34 {d : Nat} : List zV → zH d → zP d → Bool := zsmy [(0, 0), (0, 1), (0, 3)] [zR 1, zR 2, zI 5, zR 3] h0_X7_raise_34 (zI 3) h1_X7_raise_34
theorem mg_X7_raise_34 {d : Nat} : zMet (d := d) X_X7_raise yX7_raise 2 g_X7_raise_34 := zMet_sm m_X7_raisea ev_X7_raise_34
noncomputable def h0_X7_raise_35 : zH 2 := (show zT 2 from ((zk_99_zs1_64_X7_raise_2, (0, 3, 0x100000000010000000001)), ((0, 3, 0x100000000010000000001), (0, 0, 0))), (3, (0, 0)))
noncomputable def h1_X7_raise_35 : zH 2 := (show zT 2 from ((zk_99_zs1_64_X7_raise_2, (0, 3, 0x100000000010000000001)), ((0, 3, 0x100000000010000000001), (0, 0, 0))), (3, (0, 0)))
theorem ev_X7_raise_35 : f_X7_raisea [zR 1, zR 2, zI 6, zR 3] h0_X7_raise_35 (zrk (zI 3) h1_X7_raise_35) = true := by decide +kernel
noncomputable def g_X7_raise_35 {d : Nat} : List zV → zH d → zP d → Bool := zsmy [(0, 0), (0, 1), (0, 3)] [zR 1, zR 2, zI 6, zR 3] h0_X7_raise_35 (zI 3) h1_X7_raise_35
theorem mg_X7_raise_35 {d : Nat} : zMet (d := d) X_X7_raise yX7_raise 2 g_X7_raise_35 := zMet_sm m_X7_raisea ev_X7_raise_35
noncomputable def zk_99_zs1_64_X7_raise_3 : zC := (23, 14, 0x800000000d800000000c800000000b800000000a800000000980000000088000000007800000000680000000058000000004800000000380000000020000000004)
noncomputable def h0_X7_raise_36 : zH 2 := (show zT 2 from ((zk_99_zs1_64_X7_raise_3, (0, 1, 4)), ((0, 4, 0), (0, 0, 0))), (3, (0, 0)))
noncomputable def h1_X7_raise_36 : zH 2 := (show zT 2 from ((zk_99_zs1_64_X7_raise_3, (0, 1, 4)), ((0, 4, 4), (0, 0, 0))), (3, (0, 0)))
theorem ev_X7_raise_36 : f_X7_raisea [zR 1, zR 2, zI 1, zR 3] h0_X7_raise_36 (zrk (zI 1) h1_X7_raise_36) = true := by decide +kernel
noncomputable def g_X7_raise_36 {d : Nat} : List zV → zH d → zP d → Bool := zsmy [(0, 0), (0, 1), (0, 3)] [zR 1, zR 2, zI 1, zR 3] h0_X7_raise_36 (zI 1) h1_X7_raise_36
theorem mg_X7_raise_36 {d : Nat} : zMet (d := d) X_X7_raise yX7_raise 2 g_X7_raise_36 := zMet_sm m_X7_raisea ev_X7_raise_36
noncomputable def h0_X7_raise_37 : zH 2 := (show zT 2 from ((zk_99_zs1_64_X7_raise_3, (0, 1, 4)), ((0, 4, 4), (0, 0, 0))), (3, (0, 0)))
noncomputable def h1_X7_raise_37 : zH 2 := (show zT 2 from ((zk_99_zs1_64_X7_raise_3, (0, 1, 4)), ((0, 4, 0x20000000002), (0, 0, 0))), (3, (0, 0)))
theorem ev_X7_raise_37 : f_X7_raisea [zR 1, zR 2, zI 2, zR 3] h0_X7_raise_37 (zrk (zI 2) h1_X7_raise_37) = true := by decide +kernel
noncomputable def g_X7_raise_37 {d : Nat} : List zV → zH d → zP d → Bool := zsmy [(0, 0), (0, 1), (0, 3)] [zR 1, zR 2, zI 2, zR 3] h0_X7_raise_37 (zI 2) h1_X7_raise_37
theorem mg_X7_raise_37 {d : Nat} : zMet (d := d) X_X7_raise yX7_raise 2 g_X7_raise_37 := zMet_sm m_X7_raisea ev_X7_raise_37
noncomputable def h0_X7_raise_38 : zH 2 := (show zT 2 from ((zk_99_zs1_64_X7_raise_3, (0, 1, 4)), ((0, 4, 0x20000000002), (0, 0, 0))), (3, (0, 0)))
noncomputable def h1_X7_raise_38 : zH 2 := (show zT 2 from ((zk_99_zs1_64_X7_raise_3, (0, 1, 4)), ((0, 4, 0x20000000004), (0, 0, 0))), (3, (0, 0)))
theorem ev_X7_raise_38 : f_X7_raisea [zR 1, zR 2, zI 3, zR 3] h0_X7_raise_38 (zrk (zI 1) h1_X7_raise_38) = true := by decide +kernel
noncomputable def g_X7_raise_38 {d : Nat} : List zV → zH d → zP d → Bool := zsmy [(0, 0), (0, 1), (0, 3)] [zR 1, zR 2, zI 3, zR 3] h0_X7_raise_38 (zI 1) h1_X7_raise_38
theorem mg_X7_raise_38 {d : Nat} : zMet (d := d) X_X7_raise yX7_raise 2 g_X7_raise_38 := zMet_sm m_X7_raisea ev_X7_raise_38
noncomputable def h0_X7_raise_39 : zH 2 := (show zT 2 from ((zk_99_zs1_64_X7_raise_3, (0, 1, 4)), ((0, 4, 0x20000000004), (0, 0, 0))), (3, (0, 0)))
noncomputable def h1_X7_raise_39 : zH 2 := (show zT 2 from ((zk_99_zs1_64_X7_raise_3, (0, 1, 4)), ((0, 4, 0x1000000000100000000010000000001), (0, 0, 0))), (3, (0, 0)))
theorem ev_X7_raise_39 : f_X7_raisea [zR 1, zR 2, zI 4, zR 3] h0_X7_raise_39 (zrk (zI 4) h1_X7_raise_39) = true := by decide +kernel
noncomputable def g_X7_raise_39 {d : Nat} : List zV → zH d → zP d → Bool := zsmy [(0, 0), (0, 1), (0, 3)] [zR 1, zR 2, zI 4, zR 3] h0_X7_raise_39 (zI 4) h1_X7_raise_39
theorem mg_X7_raise_39 {d : Nat} : zMet (d := d) X_X7_raise yX7_raise 2 g_X7_raise_39 := zMet_sm m_X7_raisea ev_X7_raise_39
noncomputable def h0_X7_raise_40 : zH 2 := (show zT 2 from ((zk_99_zs1_64_X7_raise_3, (0, 1, 4)), ((0, 4, 0x1000000000100000000010000000001), (0, 0, 0))), (3, (0, 0)))
noncomputable def h1_X7_raise_40 : zH 2 := (show zT 2 from ((zk_99_zs1_64_X7_raise_3, (0, 1, 4)), ((0, 4, 0x1000000000100000000010000000004), (0, 0, 0))), (3, (0, 0)))
theorem ev_X7_raise_40 : f_X7_raisea [zR 1, zR 2, zI 5, zR 3] h0_X7_raise_40 (zrk (zI 1) h1_X7_raise_40) = true := by decide +kernel
noncomputable def g_X7_raise_40 {d : Nat} : List zV → zH d → zP d → Bool := zsmy [(0, 0), (0, 1), (0, 3)] [zR 1, zR 2, zI 5, zR 3] h0_X7_raise_40 (zI 1) h1_X7_raise_40
theorem mg_X7_raise_40 {d : Nat} : zMet (d := d) X_X7_raise yX7_raise 2 g_X7_raise_40 := zMet_sm m_X7_raisea ev_X7_raise_40
noncomputable def h0_X7_raise_41 : zH 2 := (show zT 2 from ((zk_99_zs1_64_X7_raise_3, (0, 1, 4)), ((0, 4, 0x1000000000100000000010000000004), (0, 0, 0))), (3, (0, 0)))
noncomputable def h1_X7_raise_41 : zH 2 := (show zT 2 from ((zk_99_zs1_64_X7_raise_3, (0, 1, 4)), ((0, 4, 0x1000000000100000000020000000002), (0, 0, 0))), (3, (0, 0)))
theorem ev_X7_raise_41 : f_X7_raisea [zR 1, zR 2, zI 6, zR 3] h0_X7_raise_41 (zrk (zI 2) h1_X7_raise_41) = true := by decide +kernel
noncomputable def g_X7_raise_41 {d : Nat} : List zV → zH d → zP d → Bool := zsmy [(0, 0), (0, 1), (0, 3)] [zR 1, zR 2, zI 6, zR 3] h0_X7_raise_41 (zI 2) h1_X7_raise_41
theorem mg_X7_raise_41 {d : Nat} : zMet (d := d) X_X7_raise yX7_raise 2 g_X7_raise_41 := zMet_sm m_X7_raisea ev_X7_raise_41
noncomputable def h0_X7_raise_42 : zH 2 := (show zT 2 from ((zk_99_zs1_64_X7_raise_3, (0, 2, 0x10000000003)), ((0, 4, 0x1000000000100000000020000000002), (0, 0, 0))), (3, (0, 0)))
noncomputable def h1_X7_raise_42 : zH 2 := (show zT 2 from ((zk_99_zs1_64_X7_raise_3, (0, 2, 0x10000000003)), ((0, 4, 0x1000000000100000000010000000003), (0, 0, 0))), (3, (0, 0)))
theorem ev_X7_raise_42 : f_X7_raisea [zR 1, zR 2, zI 1, zR 3] h0_X7_raise_42 (zrk (zI 2) h1_X7_raise_42) = true := by decide +kernel
noncomputable def g_X7_raise_42 {d : Nat} : List zV → zH d → zP d → Bool := zsmy [(0, 0), (0, 1), (0, 3)] [zR 1, zR 2, zI 1, zR 3] h0_X7_raise_42 (zI 2) h1_X7_raise_42
theorem mg_X7_raise_42 {d : Nat} : zMet (d := d) X_X7_raise yX7_raise 2 g_X7_raise_42 := zMet_sm m_X7_raisea ev_X7_raise_42
noncomputable def h0_X7_raise_43 : zH 2 := (show zT 2 from ((zk_99_zs1_64_X7_raise_3, (0, 2, 0x10000000003)), ((0, 4, 0x1000000000100000000010000000003), (0, 0, 0))), (3, (0, 0)))
noncomputable def h1_X7_raise_43 : zH 2 := (show zT 2 from ((zk_99_zs1_64_X7_raise_3, (0, 2, 0x10000000003)), ((0, 4, 0x1000000000100000000010000000003), (0, 0, 0))), (3, (0, 0)))
theorem ev_X7_raise_43 : f_X7_raisea [zR 1, zR 2, zI 2, zR 3] h0_X7_raise_43 (zrk (zI 2) h1_X7_raise_43) = true := by decide +kernel
noncomputable def g_X7_raise_43 {d : Nat} : List zV → zH d → zP d → Bool := zsmy [(0, 0), (0, 1), (0, 3)] [zR 1, zR 2, zI 2, zR 3] h0_X7_raise_43 (zI 2) h1_X7_raise_43
theorem mg_X7_raise_43 {d : Nat} : zMet (d := d) X_X7_raise yX7_raise 2 g_X7_raise_43 := zMet_sm m_X7_raisea ev_X7_raise_43
noncomputable def h0_X7_raise_44 : zH 2 := (show zT 2 from ((zk_99_zs1_64_X7_raise_3, (0, 2, 0x10000000003)), ((0, 4, 0x1000000000100000000010000000003), (0, 0, 0))), (3, (0, 0)))
noncomputable def h1_X7_raise_44 : zH 2 := (show zT 2 from ((zk_99_zs1_64_X7_raise_3, (0, 2, 0x10000000003)), ((0, 4, 0x1000000000100000000010000000001), (0, 0, 0))), (3, (0, 0)))
theorem ev_X7_raise_44 : f_X7_raisea [zR 1, zR 2, zI 3, zR 3] h0_X7_raise_44 (zrk (zI 4) h1_X7_raise_44) = true := by decide +kernel
noncomputable def g_X7_raise_44 {d : Nat} : List zV → zH d → zP d → Bool := zsmy [(0, 0), (0, 1), (0, 3)] [zR 1, zR 2, zI 3, zR 3] h0_X7_raise_44 (zI 4) h1_X7_raise_44
theorem mg_X7_raise_44 {d : Nat} : zMet (d := d) X_X7_raise yX7_raise 2 g_X7_raise_44 := zMet_sm m_X7_raisea ev_X7_raise_44
noncomputable def h0_X7_raise_45 : zH 2 := (show zT 2 from ((zk_99_zs1_64_X7_raise_3, (0, 2, 0x10000000003)), ((0, 4, 0x1000000000100000000010000000001), (0, 0, 0))), (3, (0, 0)))
noncomputable def h1_X7_raise_45 : zH 2 := (show zT 2 from ((zk_99_zs1_64_X7_raise_3, (0, 2, 0x10000000003)), ((0, 4, 0x1000000000100000000010000000003), (0, 0, 0))), (3, (0, 0)))
theorem ev_X7_raise_45 : f_X7_raisea [zR 1, zR 2, zI 4, zR 3] h0_X7_raise_45 (zrk (zI 2) h1_X7_raise_45) = true := by decide +kernel
noncomputable def g_X7_raise_45 {d : Nat} : List zV → zH d → zP d → Bool := zsmy [(0, 0), (0, 1), (0, 3)] [zR 1, zR 2, zI 4, zR 3] h0_X7_raise_45 (zI 2) h1_X7_raise_45
theorem mg_X7_raise_45 {d : Nat} : zMet (d := d) X_X7_raise yX7_raise 2 g_X7_raise_45 := zMet_sm m_X7_raisea ev_X7_raise_45
noncomputable def h0_X7_raise_46 : zH 2 := (show zT 2 from ((zk_99_zs1_64_X7_raise_3, (0, 2, 0x10000000003)), ((0, 4, 0x1000000000100000000010000000003), (0, 0, 0))), (3, (0, 0)))
noncomputable def h1_X7_raise_46 : zH 2 := (show zT 2 from ((zk_99_zs1_64_X7_raise_3, (0, 2, 0x10000000003)), ((0, 4, 0x1000000000100000000010000000003), (0, 0, 0))), (3, (0, 0)))
theorem ev_X7_raise_46 : f_X7_raisea [zR 1, zR 2, zI 5, zR 3] h0_X7_raise_46 (zrk (zI 2) h1_X7_raise_46) = true := by decide +kernel
noncomputable def g_X7_raise_46 {d : Nat} : List zV → zH d → zP d → Bool := zsmy [(0, 0), (0, 1), (0, 3)] [zR 1, zR 2, zI 5, zR 3] h0_X7_raise_46 (zI 2) h1_X7_raise_46
theorem mg_X7_raise_46 {d : Nat} : zMet (d := d) X_X7_raise yX7_raise 2 g_X7_raise_46 := zMet_sm m_X7_raisea ev_X7_raise_46
noncomputable def h0_X7_raise_47 : zH 2 := (show zT 2 from ((zk_99_zs1_64_X7_raise_3, (0, 2, 0x10000000003)), ((0, 4, 0x1000000000100000000010000000003), (0, 0, 0))), (3, (0, 0)))
noncomputable def h1_X7_raise_47 : zH 2 := (show zT 2 from ((zk_99_zs1_64_X7_raise_3, (0, 2, 0x10000000003)), ((0, 4, 0x1000000000100000000010000000001), (0, 0, 0))), (3, (0, 0)))
theorem ev_X7_raise_47 : f_X7_raisea [zR 1, zR 2, zI 6, zR 3] h0_X7_raise_47 (zrk (zI 4) h1_X7_raise_47) = true := by decide +kernel
noncomputable def g_X7_raise_47 {d : Nat} : List zV → zH d → zP d → Bool := zsmy [(0, 0), (0, 1), (0, 3)] [zR 1, zR 2, zI 6, zR 3] h0_X7_raise_47 (zI 4) h1_X7_raise_47
theorem mg_X7_raise_47 {d : Nat} : zMet (d := d) X_X7_raise yX7_raise 2 g_X7_raise_47 := zMet_sm m_X7_raisea ev_X7_raise_47
noncomputable def h0_X7_raise_48 : zH 2 := (show zT 2 from ((zk_99_zs1_64_X7_raise_3, (0, 2, 0x20000000002)), ((0, 4, 0x1000000000100000000010000000001), (0, 0, 0))), (3, (0, 0)))
noncomputable def h1_X7_raise_48 : zH 2 := (show zT 2 from ((zk_99_zs1_64_X7_raise_3, (0, 2, 0x20000000002)), ((0, 4, 0x1000000000100000000020000000002), (0, 0, 0))), (3, (0, 0)))
theorem ev_X7_raise_48 : f_X7_raisea [zR 1, zR 2, zI 1, zR 3] h0_X7_raise_48 (zrk (zI 2) h1_X7_raise_48) = true := by decide +kernel
noncomputable def g_X7_raise_48 {d : Nat} : List zV → zH d → zP d → Bool := zsmy [(0, 0), (0, 1), (0, 3)] [zR 1, zR 2, zI 1, zR 3] h0_X7_raise_48 (zI 2) h1_X7_raise_48
theorem mg_X7_raise_48 {d : Nat} : zMet (d := d) X_X7_raise yX7_raise 2 g_X7_raise_48 := zMet_sm m_X7_raisea ev_X7_raise_48
noncomputable def h0_X7_raise_49 : zH 2 := (show zT 2 from ((zk_99_zs1_64_X7_raise_3, (0, 2, 0x20000000002)), ((0, 4, 0x1000000000100000000020000000002), (0, 0, 0))), (3, (0, 0)))
noncomputable def h1_X7_raise_49 : zH 2 := (show zT 2 from ((zk_99_zs1_64_X7_raise_3, (0, 2, 0x20000000002)), ((0, 4, 0x1000000000100000000010000000001), (0, 0, 0))), (3, (0, 0)))
theorem ev_X7_raise_49 : f_X7_raisea [zR 1, zR 2, zI 2, zR 3] h0_X7_raise_49 (zrk (zI 4) h1_X7_raise_49) = true := by decide +kernel
noncomputable def g_X7_raise_49 {d : Nat} : List zV → zH d → zP d → Bool := zsmy [(0, 0), (0, 1), (0, 3)] [zR 1, zR 2, zI 2, zR 3] h0_X7_raise_49 (zI 4) h1_X7_raise_49
theorem mg_X7_raise_49 {d : Nat} : zMet (d := d) X_X7_raise yX7_raise 2 g_X7_raise_49 := zMet_sm m_X7_raisea ev_X7_raise_49
noncomputable def h0_X7_raise_50 : zH 2 := (show zT 2 from ((zk_99_zs1_64_X7_raise_3, (0, 2, 0x20000000002)), ((0, 4, 0x1000000000100000000010000000001), (0, 0, 0))), (3, (0, 0)))
noncomputable def h1_X7_raise_50 : zH 2 := (show zT 2 from ((zk_99_zs1_64_X7_raise_3, (0, 2, 0x20000000002)), ((0, 4, 0x1000000000100000000020000000002), (0, 0, 0))), (3, (0, 0)))
theorem ev_X7_raise_50 : f_X7_raisea [zR 1, zR 2, zI 3, zR 3] h0_X7_raise_50 (zrk (zI 2) h1_X7_raise_50) = true := by decide +kernel
noncomputable def g_X7_raise_50 {d : Nat} : List zV → zH d → zP d → Bool := zsmy [(0, 0), (0, 1), (0, 3)] [zR 1, zR 2, zI 3, zR 3] h0_X7_raise_50 (zI 2) h1_X7_raise_50
theorem mg_X7_raise_50 {d : Nat} : zMet (d := d) X_X7_raise yX7_raise 2 g_X7_raise_50 := zMet_sm m_X7_raisea ev_X7_raise_50
noncomputable def h0_X7_raise_51 : zH 2 := (show zT 2 from ((zk_99_zs1_64_X7_raise_3, (0, 2, 0x20000000002)), ((0, 4, 0x1000000000100000000020000000002), (0, 0, 0))), (3, (0, 0)))
noncomputable def h1_X7_raise_51 : zH 2 := (show zT 2 from ((zk_99_zs1_64_X7_raise_3, (0, 2, 0x20000000002)), ((0, 4, 0x1000000000100000000010000000001), (0, 0, 0))), (3, (0, 0)))
theorem ev_X7_raise_51 : f_X7_raisea [zR 1, zR 2, zI 4, zR 3] h0_X7_raise_51 (zrk (zI 4) h1_X7_raise_51) = true := by decide +kernel
noncomputable def g_X7_raise_51 {d : Nat} : List zV → zH d → zP d → Bool := zsmy [(0, 0), (0, 1), (0, 3)] [zR 1, zR 2, zI 4, zR 3] h0_X7_raise_51 (zI 4) h1_X7_raise_51
theorem mg_X7_raise_51 {d : Nat} : zMet (d := d) X_X7_raise yX7_raise 2 g_X7_raise_51 := zMet_sm m_X7_raisea ev_X7_raise_51
noncomputable def h0_X7_raise_52 : zH 2 := (show zT 2 from ((zk_99_zs1_64_X7_raise_3, (0, 2, 0x20000000002)), ((0, 4, 0x1000000000100000000010000000001), (0, 0, 0))), (3, (0, 0)))
noncomputable def h1_X7_raise_52 : zH 2 := (show zT 2 from ((zk_99_zs1_64_X7_raise_3, (0, 2, 0x20000000002)), ((0, 4, 0x1000000000100000000020000000002), (0, 0, 0))), (3, (0, 0)))
theorem ev_X7_raise_52 : f_X7_raisea [zR 1, zR 2, zI 5, zR 3] h0_X7_raise_52 (zrk (zI 2) h1_X7_raise_52) = true := by decide +kernel
noncomputable def g_X7_raise_52 {d : Nat} : List zV → zH d → zP d → Bool := zsmy [(0, 0), (0, 1), (0, 3)] [zR 1, zR 2, zI 5, zR 3] h0_X7_raise_52 (zI 2) h1_X7_raise_52
theorem mg_X7_raise_52 {d : Nat} : zMet (d := d) X_X7_raise yX7_raise 2 g_X7_raise_52 := zMet_sm m_X7_raisea ev_X7_raise_52
noncomputable def h0_X7_raise_53 : zH 2 := (show zT 2 from ((zk_99_zs1_64_X7_raise_3, (0, 2, 0x20000000002)), ((0, 4, 0x1000000000100000000020000000002), (0, 0, 0))), (3, (0, 0)))
noncomputable def h1_X7_raise_53 : zH 2 := (show zT 2 from ((zk_99_zs1_64_X7_raise_3, (0, 2, 0x20000000002)), ((0, 4, 0x1000000000100000000010000000001), (0, 0, 0))), (3, (0, 0)))
theorem ev_X7_raise_53 : f_X7_raisea [zR 1, zR 2, zI 6, zR 3] h0_X7_raise_53 (zrk (zI 4) h1_X7_raise_53) = true := by decide +kernel
noncomputable def g_X7_raise_53 {d : Nat} : List zV → zH d → zP d → Bool := zsmy [(0, 0), (0, 1), (0, 3)] [zR 1, zR 2, zI 6, zR 3] h0_X7_raise_53 (zI 4) h1_X7_raise_53
theorem mg_X7_raise_53 {d : Nat} : zMet (d := d) X_X7_raise yX7_raise 2 g_X7_raise_53 := zMet_sm m_X7_raisea ev_X7_raise_53
noncomputable def h0_X7_raise_54 : zH 2 := (show zT 2 from ((zk_99_zs1_64_X7_raise_3, (0, 3, 0x100000000010000000002)), ((0, 4, 0x1000000000100000000010000000001), (0, 0, 0))), (3, (0, 0)))
noncomputable def h1_X7_raise_54 : zH 2 := (show zT 2 from ((zk_99_zs1_64_X7_raise_3, (0, 3, 0x100000000010000000002)), ((0, 4, 0x1000000000100000000010000000002), (0, 0, 0))), (3, (0, 0)))
theorem ev_X7_raise_54 : f_X7_raisea [zR 1, zR 2, zI 1, zR 3] h0_X7_raise_54 (zrk (zI 3) h1_X7_raise_54) = true := by decide +kernel
noncomputable def g_X7_raise_54 {d : Nat} : List zV → zH d → zP d → Bool := zsmy [(0, 0), (0, 1), (0, 3)] [zR 1, zR 2, zI 1, zR 3] h0_X7_raise_54 (zI 3) h1_X7_raise_54
theorem mg_X7_raise_54 {d : Nat} : zMet (d := d) X_X7_raise yX7_raise 2 g_X7_raise_54 := zMet_sm m_X7_raisea ev_X7_raise_54
noncomputable def h0_X7_raise_55 : zH 2 := (show zT 2 from ((zk_99_zs1_64_X7_raise_3, (0, 3, 0x100000000010000000002)), ((0, 4, 0x1000000000100000000010000000002), (0, 0, 0))), (3, (0, 0)))
noncomputable def h1_X7_raise_55 : zH 2 := (show zT 2 from ((zk_99_zs1_64_X7_raise_3, (0, 3, 0x100000000010000000002)), ((0, 4, 0x1000000000100000000010000000001), (0, 0, 0))), (3, (0, 0)))
theorem ev_X7_raise_55 : f_X7_raisea [zR 1, zR 2, zI 2, zR 3] h0_X7_raise_55 (zrk (zI 4) h1_X7_raise_55) = true := by decide +kernel
noncomputable def g_X7_raise_55 {d : Nat} : List zV → zH d → zP d → Bool := zsmy [(0, 0), (0, 1), (0, 3)] [zR 1, zR 2, zI 2, zR 3] h0_X7_raise_55 (zI 4) h1_X7_raise_55
theorem mg_X7_raise_55 {d : Nat} : zMet (d := d) X_X7_raise yX7_raise 2 g_X7_raise_55 := zMet_sm m_X7_raisea ev_X7_raise_55
noncomputable def h0_X7_raise_56 : zH 2 := (show zT 2 from ((zk_99_zs1_64_X7_raise_3, (0, 3, 0x100000000010000000002)), ((0, 4, 0x1000000000100000000010000000001), (0, 0, 0))), (3, (0, 0)))
noncomputable def h1_X7_raise_56 : zH 2 := (show zT 2 from ((zk_99_zs1_64_X7_raise_3, (0, 3, 0x100000000010000000002)), ((0, 4, 0x1000000000100000000010000000002), (0, 0, 0))), (3, (0, 0)))
theorem ev_X7_raise_56 : f_X7_raisea [zR 1, zR 2, zI 3, zR 3] h0_X7_raise_56 (zrk (zI 3) h1_X7_raise_56) = true := by decide +kernel
noncomputable def g_X7_raise_56 {d : Nat} : List zV → zH d → zP d → Bool := zsmy [(0, 0), (0, 1), (0, 3)] [zR 1, zR 2, zI 3, zR 3] h0_X7_raise_56 (zI 3) h1_X7_raise_56
theorem mg_X7_raise_56 {d : Nat} : zMet (d := d) X_X7_raise yX7_raise 2 g_X7_raise_56 := zMet_sm m_X7_raisea ev_X7_raise_56
noncomputable def h0_X7_raise_57 : zH 2 := (show zT 2 from ((zk_99_zs1_64_X7_raise_3, (0, 3, 0x100000000010000000002)), ((0, 4, 0x1000000000100000000010000000002), (0, 0, 0))), (3, (0, 0)))
noncomputable def h1_X7_raise_57 : zH 2 := (show zT 2 from ((zk_99_zs1_64_X7_raise_3, (0, 3, 0x100000000010000000002)), ((0, 4, 0x1000000000100000000010000000001), (0, 0, 0))), (3, (0, 0)))
theorem ev_X7_raise_57 : f_X7_raisea [zR 1, zR 2, zI 4, zR 3] h0_X7_raise_57 (zrk (zI 4) h1_X7_raise_57) = true := by decide +kernel
noncomputable def g_X7_raise_57 {d : Nat} : List zV → zH d → zP d → Bool := zsmy [(0, 0), (0, 1), (0, 3)] [zR 1, zR 2, zI 4, zR 3] h0_X7_raise_57 (zI 4) h1_X7_raise_57
theorem mg_X7_raise_57 {d : Nat} : zMet (d := d) X_X7_raise yX7_raise 2 g_X7_raise_57 := zMet_sm m_X7_raisea ev_X7_raise_57
noncomputable def h0_X7_raise_58 : zH 2 := (show zT 2 from ((zk_99_zs1_64_X7_raise_3, (0, 3, 0x100000000010000000002)), ((0, 4, 0x1000000000100000000010000000001), (0, 0, 0))), (3, (0, 0)))
noncomputable def h1_X7_raise_58 : zH 2 := (show zT 2 from ((zk_99_zs1_64_X7_raise_3, (0, 3, 0x100000000010000000002)), ((0, 4, 0x1000000000100000000010000000002), (0, 0, 0))), (3, (0, 0)))
theorem ev_X7_raise_58 : f_X7_raisea [zR 1, zR 2, zI 5, zR 3] h0_X7_raise_58 (zrk (zI 3) h1_X7_raise_58) = true := by decide +kernel
noncomputable def g_X7_raise_58 {d : Nat} : List zV → zH d → zP d → Bool := zsmy [(0, 0), (0, 1), (0, 3)] [zR 1, zR 2, zI 5, zR 3] h0_X7_raise_58 (zI 3) h1_X7_raise_58
theorem mg_X7_raise_58 {d : Nat} : zMet (d := d) X_X7_raise yX7_raise 2 g_X7_raise_58 := zMet_sm m_X7_raisea ev_X7_raise_58
noncomputable def h0_X7_raise_59 : zH 2 := (show zT 2 from ((zk_99_zs1_64_X7_raise_3, (0, 3, 0x100000000010000000002)), ((0, 4, 0x1000000000100000000010000000002), (0, 0, 0))), (3, (0, 0)))
noncomputable def h1_X7_raise_59 : zH 2 := (show zT 2 from ((zk_99_zs1_64_X7_raise_3, (0, 3, 0x100000000010000000002)), ((0, 4, 0x1000000000100000000010000000001), (0, 0, 0))), (3, (0, 0)))
theorem ev_X7_raise_59 : f_X7_raisea [zR 1, zR 2, zI 6, zR 3] h0_X7_raise_59 (zrk (zI 4) h1_X7_raise_59) = true := by decide +kernel
noncomputable def g_X7_raise_59 {d : Nat} : List zV → zH d → zP d → Bool := zsmy [(0, 0), (0, 1), (0, 3)] [zR 1, zR 2, zI 6, zR 3] h0_X7_raise_59 (zI 4) h1_X7_raise_59
theorem mg_X7_raise_59 {d : Nat} : zMet (d := d) X_X7_raise yX7_raise 2 g_X7_raise_59 := zMet_sm m_X7_raisea ev_X7_raise_59
noncomputable def h0_X7_raise_60 : zH 2 := (show zT 2 from ((zk_99_zs1_64_X7_raise_3, (0, 4, 0x1000000000100000000010000000001)), ((0, 4, 0x1000000000100000000010000000001), (0, 0, 0))), (3, (0, 0)))
noncomputable def h1_X7_raise_60 : zH 2 := (show zT 2 from ((zk_99_zs1_64_X7_raise_3, (0, 4, 0x1000000000100000000010000000001)), ((0, 4, 0x1000000000100000000010000000001), (0, 0, 0))), (3, (0, 0)))
theorem ev_X7_raise_60 : f_X7_raisea [zR 1, zR 2, zI 1, zR 3] h0_X7_raise_60 (zrk (zI 4) h1_X7_raise_60) = true := by decide +kernel
noncomputable def g_X7_raise_60 {d : Nat} : List zV → zH d → zP d → Bool := zsmy [(0, 0), (0, 1), (0, 3)] [zR 1, zR 2, zI 1, zR 3] h0_X7_raise_60 (zI 4) h1_X7_raise_60
theorem mg_X7_raise_60 {d : Nat} : zMet (d := d) X_X7_raise yX7_raise 2 g_X7_raise_60 := zMet_sm m_X7_raisea ev_X7_raise_60
noncomputable def h0_X7_raise_61 : zH 2 := (show zT 2 from ((zk_99_zs1_64_X7_raise_3, (0, 4, 0x1000000000100000000010000000001)), ((0, 4, 0x1000000000100000000010000000001), (0, 0, 0))), (3, (0, 0)))
noncomputable def h1_X7_raise_61 : zH 2 := (show zT 2 from ((zk_99_zs1_64_X7_raise_3, (0, 4, 0x1000000000100000000010000000001)), ((0, 4, 0x1000000000100000000010000000001), (0, 0, 0))), (3, (0, 0)))
theorem ev_X7_raise_61 : f_X7_raisea [zR 1, zR 2, zI 2, zR 3] h0_X7_raise_61 (zrk (zI 4) h1_X7_raise_61) = true := by decide +kernel
noncomputable def g_X7_raise_61 {d : Nat} : List zV → zH d → zP d → Bool := zsmy [(0, 0), (0, 1), (0, 3)] [zR 1, zR 2, zI 2, zR 3] h0_X7_raise_61 (zI 4) h1_X7_raise_61
theorem mg_X7_raise_61 {d : Nat} : zMet (d := d) X_X7_raise yX7_raise 2 g_X7_raise_61 := zMet_sm m_X7_raisea ev_X7_raise_61
noncomputable def h0_X7_raise_62 : zH 2 := (show zT 2 from ((zk_99_zs1_64_X7_raise_3, (0, 4, 0x1000000000100000000010000000001)), ((0, 4, 0x1000000000100000000010000000001), (0, 0, 0))), (3, (0, 0)))
noncomputable def h1_X7_raise_62 : zH 2 := (show zT 2 from ((zk_99_zs1_64_X7_raise_3, (0, 4, 0x1000000000100000000010000000001)), ((0, 4, 0x1000000000100000000010000000001), (0, 0, 0))), (3, (0, 0)))
theorem ev_X7_raise_62 : f_X7_raisea [zR 1, zR 2, zI 3, zR 3] h0_X7_raise_62 (zrk (zI 4) h1_X7_raise_62) = true := by decide +kernel
noncomputable def g_X7_raise_62 {d : Nat} : List zV → zH d → zP d → Bool := zsmy [(0, 0), (0, 1), (0, 3)] [zR 1, zR 2, zI 3, zR 3] h0_X7_raise_62 (zI 4) h1_X7_raise_62
theorem mg_X7_raise_62 {d : Nat} : zMet (d := d) X_X7_raise yX7_raise 2 g_X7_raise_62 := zMet_sm m_X7_raisea ev_X7_raise_62
noncomputable def h0_X7_raise_63 : zH 2 := (show zT 2 from ((zk_99_zs1_64_X7_raise_3, (0, 4, 0x1000000000100000000010000000001)), ((0, 4, 0x1000000000100000000010000000001), (0, 0, 0))), (3, (0, 0)))
noncomputable def h1_X7_raise_63 : zH 2 := (show zT 2 from ((zk_99_zs1_64_X7_raise_3, (0, 4, 0x1000000000100000000010000000001)), ((0, 4, 0x1000000000100000000010000000001), (0, 0, 0))), (3, (0, 0)))
theorem ev_X7_raise_63 : f_X7_raisea [zR 1, zR 2, zI 4, zR 3] h0_X7_raise_63 (zrk (zI 4) h1_X7_raise_63) = true := by decide +kernel
noncomputable def g_X7_raise_63 {d : Nat} : List zV → zH d → zP d → Bool := zsmy [(0, 0), (0, 1), (0, 3)] [zR 1, zR 2, zI 4, zR 3] h0_X7_raise_63 (zI 4) h1_X7_raise_63
theorem mg_X7_raise_63 {d : Nat} : zMet (d := d) X_X7_raise yX7_raise 2 g_X7_raise_63 := zMet_sm m_X7_raisea ev_X7_raise_63
noncomputable def h0_X7_raise_64 : zH 2 := (show zT 2 from ((zk_99_zs1_64_X7_raise_3, (0, 4, 0x1000000000100000000010000000001)), ((0, 4, 0x1000000000100000000010000000001), (0, 0, 0))), (3, (0, 0)))
noncomputable def h1_X7_raise_64 : zH 2 := (show zT 2 from ((zk_99_zs1_64_X7_raise_3, (0, 4, 0x1000000000100000000010000000001)), ((0, 4, 0x1000000000100000000010000000001), (0, 0, 0))), (3, (0, 0)))
theorem ev_X7_raise_64 : f_X7_raisea [zR 1, zR 2, zI 5, zR 3] h0_X7_raise_64 (zrk (zI 4) h1_X7_raise_64) = true := by decide +kernel
noncomputable def g_X7_raise_64 {d : Nat} : List zV → zH d → zP d → Bool := zsmy [(0, 0), (0, 1), (0, 3)] [zR 1, zR 2, zI 5, zR 3] h0_X7_raise_64 (zI 4) h1_X7_raise_64
theorem mg_X7_raise_64 {d : Nat} : zMet (d := d) X_X7_raise yX7_raise 2 g_X7_raise_64 := zMet_sm m_X7_raisea ev_X7_raise_64
noncomputable def h0_X7_raise_65 : zH 2 := (show zT 2 from ((zk_99_zs1_64_X7_raise_3, (0, 4, 0x1000000000100000000010000000001)), ((0, 4, 0x1000000000100000000010000000001), (0, 0, 0))), (3, (0, 0)))
noncomputable def h1_X7_raise_65 : zH 2 := (show zT 2 from ((zk_99_zs1_64_X7_raise_3, (0, 4, 0x1000000000100000000010000000001)), ((0, 4, 0x1000000000100000000010000000001), (0, 0, 0))), (3, (0, 0)))
theorem ev_X7_raise_65 : f_X7_raisea [zR 1, zR 2, zI 6, zR 3] h0_X7_raise_65 (zrk (zI 4) h1_X7_raise_65) = true := by decide +kernel
noncomputable def g_X7_raise_65 {d : Nat} : List zV → zH d → zP d → Bool := zsmy [(0, 0), (0, 1), (0, 3)] [zR 1, zR 2, zI 6, zR 3] h0_X7_raise_65 (zI 4) h1_X7_raise_65
theorem mg_X7_raise_65 {d : Nat} : zMet (d := d) X_X7_raise yX7_raise 2 g_X7_raise_65 := zMet_sm m_X7_raisea ev_X7_raise_65
noncomputable def zk_99_zs1_64_X7_raise_4 : zC := (23, 14, 0x800000000d800000000c800000000b800000000a800000000980000000088000000007800000000680000000058000000004800000000380000000020000000005)
noncomputable def h0_X7_raise_66 : zH 2 := (show zT 2 from ((zk_99_zs1_64_X7_raise_4, (0, 1, 5)), ((0, 5, 0), (0, 0, 0))), (3, (0, 0)))
noncomputable def h1_X7_raise_66 : zH 2 := (show zT 2 from ((zk_99_zs1_64_X7_raise_4, (0, 1, 5)), ((0, 5, 5), (0, 0, 0))), (3, (0, 0)))
theorem ev_X7_raise_66 : f_X7_raisea [zR 1, zR 2, zI 1, zR 3] h0_X7_raise_66 (zrk (zI 1) h1_X7_raise_66) = true := by decide +kernel
noncomputable def g_X7_raise_66 {d : Nat} : List zV → zH d → zP d → Bool := zsmy [(0, 0), (0, 1), (0, 3)] [zR 1, zR 2, zI 1, zR 3] h0_X7_raise_66 (zI 1) h1_X7_raise_66
theorem mg_X7_raise_66 {d : Nat} : zMet (d := d) X_X7_raise yX7_raise 2 g_X7_raise_66 := zMet_sm m_X7_raisea ev_X7_raise_66
noncomputable def h0_X7_raise_67 : zH 2 := (show zT 2 from ((zk_99_zs1_64_X7_raise_4, (0, 1, 5)), ((0, 5, 5), (0, 0, 0))), (3, (0, 0)))
noncomputable def h1_X7_raise_67 : zH 2 := (show zT 2 from ((zk_99_zs1_64_X7_raise_4, (0, 1, 5)), ((0, 5, 5), (0, 0, 0))), (3, (0, 0)))
theorem ev_X7_raise_67 : f_X7_raisea [zR 1, zR 2, zI 2, zR 3] h0_X7_raise_67 (zrk (zI 1) h1_X7_raise_67) = true := by decide +kernel
noncomputable def g_X7_raise_67 {d : Nat} : List zV → zH d → zP d → Bool := zsmy [(0, 0), (0, 1), (0, 3)] [zR 1, zR 2, zI 2, zR 3] h0_X7_raise_67 (zI 1) h1_X7_raise_67
theorem mg_X7_raise_67 {d : Nat} : zMet (d := d) X_X7_raise yX7_raise 2 g_X7_raise_67 := zMet_sm m_X7_raisea ev_X7_raise_67
noncomputable def h0_X7_raise_68 : zH 2 := (show zT 2 from ((zk_99_zs1_64_X7_raise_4, (0, 1, 5)), ((0, 5, 5), (0, 0, 0))), (3, (0, 0)))
noncomputable def h1_X7_raise_68 : zH 2 := (show zT 2 from ((zk_99_zs1_64_X7_raise_4, (0, 1, 5)), ((0, 5, 5), (0, 0, 0))), (3, (0, 0)))
theorem ev_X7_raise_68 : f_X7_raisea [zR 1, zR 2, zI 3, zR 3] h0_X7_raise_68 (zrk (zI 1) h1_X7_raise_68) = true := by decide +kernel
noncomputable def g_X7_raise_68 {d : Nat} : List zV → zH d → zP d → Bool := zsmy [(0, 0), (0, 1), (0, 3)] [zR 1, zR 2, zI 3, zR 3] h0_X7_raise_68 (zI 1) h1_X7_raise_68
theorem mg_X7_raise_68 {d : Nat} : zMet (d := d) X_X7_raise yX7_raise 2 g_X7_raise_68 := zMet_sm m_X7_raisea ev_X7_raise_68
noncomputable def h0_X7_raise_69 : zH 2 := (show zT 2 from ((zk_99_zs1_64_X7_raise_4, (0, 1, 5)), ((0, 5, 5), (0, 0, 0))), (3, (0, 0)))
noncomputable def h1_X7_raise_69 : zH 2 := (show zT 2 from ((zk_99_zs1_64_X7_raise_4, (0, 1, 5)), ((0, 5, 5), (0, 0, 0))), (3, (0, 0)))
theorem ev_X7_raise_69 : f_X7_raisea [zR 1, zR 2, zI 4, zR 3] h0_X7_raise_69 (zrk (zI 1) h1_X7_raise_69) = true := by decide +kernel
noncomputable def g_X7_raise_69 {d : Nat} : List zV → zH d → zP d → Bool := zsmy [(0, 0), (0, 1), (0, 3)] [zR 1, zR 2, zI 4, zR 3] h0_X7_raise_69 (zI 1) h1_X7_raise_69
theorem mg_X7_raise_69 {d : Nat} : zMet (d := d) X_X7_raise yX7_raise 2 g_X7_raise_69 := zMet_sm m_X7_raisea ev_X7_raise_69
noncomputable def h0_X7_raise_70 : zH 2 := (show zT 2 from ((zk_99_zs1_64_X7_raise_4, (0, 1, 5)), ((0, 5, 5), (0, 0, 0))), (3, (0, 0)))
noncomputable def zk_99_zs1_64_X7_raise_5 : zT 1 := @Prod.mk (zT 0) (zT 0) (0, 5, 0x10000000001000000000100000000010000000001) (0, 0, 0)
noncomputable def h1_X7_raise_70 : zH 2 := (show zT 2 from ((zk_99_zs1_64_X7_raise_4, (0, 1, 5)), zk_99_zs1_64_X7_raise_5), (3, (0, 0)))
theorem ev_X7_raise_70 : f_X7_raisea [zR 1, zR 2, zI 5, zR 3] h0_X7_raise_70 (zrk (zI 5) h1_X7_raise_70) = true := by decide +kernel
noncomputable def g_X7_raise_70 {d : Nat} : List zV → zH d → zP d → Bool := zsmy [(0, 0), (0, 1), (0, 3)] [zR 1, zR 2, zI 5, zR 3] h0_X7_raise_70 (zI 5) h1_X7_raise_70
theorem mg_X7_raise_70 {d : Nat} : zMet (d := d) X_X7_raise yX7_raise 2 g_X7_raise_70 := zMet_sm m_X7_raisea ev_X7_raise_70
noncomputable def h0_X7_raise_71 : zH 2 := (show zT 2 from ((zk_99_zs1_64_X7_raise_4, (0, 1, 5)), zk_99_zs1_64_X7_raise_5), (3, (0, 0)))
noncomputable def zk_99_zs1_64_X7_raise_6 : zT 1 := @Prod.mk (zT 0) (zT 0) (0, 5, 0x10000000001000000000100000000010000000005) (0, 0, 0)
noncomputable def h1_X7_raise_71 : zH 2 := (show zT 2 from ((zk_99_zs1_64_X7_raise_4, (0, 1, 5)), zk_99_zs1_64_X7_raise_6), (3, (0, 0)))
theorem ev_X7_raise_71 : f_X7_raisea [zR 1, zR 2, zI 6, zR 3] h0_X7_raise_71 (zrk (zI 1) h1_X7_raise_71) = true := by decide +kernel
noncomputable def g_X7_raise_71 {d : Nat} : List zV → zH d → zP d → Bool := zsmy [(0, 0), (0, 1), (0, 3)] [zR 1, zR 2, zI 6, zR 3] h0_X7_raise_71 (zI 1) h1_X7_raise_71
theorem mg_X7_raise_71 {d : Nat} : zMet (d := d) X_X7_raise yX7_raise 2 g_X7_raise_71 := zMet_sm m_X7_raisea ev_X7_raise_71
noncomputable def h0_X7_raise_72 : zH 2 := (show zT 2 from ((zk_99_zs1_64_X7_raise_4, (0, 2, 0x10000000004)), zk_99_zs1_64_X7_raise_6), (3, (0, 0)))
noncomputable def h1_X7_raise_72 : zH 2 := (show zT 2 from ((zk_99_zs1_64_X7_raise_4, (0, 2, 0x10000000004)), ((0, 5, 0x10000000001000000000100000000010000000004), (0, 0, 0))), (3, (0, 0)))
theorem ev_X7_raise_72 : f_X7_raisea [zR 1, zR 2, zI 1, zR 3] h0_X7_raise_72 (zrk (zI 2) h1_X7_raise_72) = true := by decide +kernel
noncomputable def g_X7_raise_72 {d : Nat} : List zV → zH d → zP d → Bool := zsmy [(0, 0), (0, 1), (0, 3)] [zR 1, zR 2, zI 1, zR 3] h0_X7_raise_72 (zI 2) h1_X7_raise_72
theorem mg_X7_raise_72 {d : Nat} : zMet (d := d) X_X7_raise yX7_raise 2 g_X7_raise_72 := zMet_sm m_X7_raisea ev_X7_raise_72
noncomputable def h0_X7_raise_73 : zH 2 := (show zT 2 from ((zk_99_zs1_64_X7_raise_4, (0, 2, 0x10000000004)), ((0, 5, 0x10000000001000000000100000000010000000004), (0, 0, 0))), (3, (0, 0)))
noncomputable def zk_99_zs1_64_X7_raise_7 : zT 1 := @Prod.mk (zT 0) (zT 0) (0, 5, 0x10000000001000000000100000000020000000002) (0, 0, 0)
noncomputable def h1_X7_raise_73 : zH 2 := (show zT 2 from ((zk_99_zs1_64_X7_raise_4, (0, 2, 0x10000000004)), zk_99_zs1_64_X7_raise_7), (3, (0, 0)))
theorem ev_X7_raise_73 : f_X7_raisea [zR 1, zR 2, zI 2, zR 3] h0_X7_raise_73 (zrk (zI 3) h1_X7_raise_73) = true := by decide +kernel
noncomputable def g_X7_raise_73 {d : Nat} : List zV → zH d → zP d → Bool := zsmy [(0, 0), (0, 1), (0, 3)] [zR 1, zR 2, zI 2, zR 3] h0_X7_raise_73 (zI 3) h1_X7_raise_73
theorem mg_X7_raise_73 {d : Nat} : zMet (d := d) X_X7_raise yX7_raise 2 g_X7_raise_73 := zMet_sm m_X7_raisea ev_X7_raise_73
noncomputable def h0_X7_raise_74 : zH 2 := (show zT 2 from ((zk_99_zs1_64_X7_raise_4, (0, 2, 0x10000000004)), zk_99_zs1_64_X7_raise_7), (3, (0, 0)))
noncomputable def h1_X7_raise_74 : zH 2 := (show zT 2 from ((zk_99_zs1_64_X7_raise_4, (0, 2, 0x10000000004)), ((0, 5, 0x10000000001000000000100000000010000000004), (0, 0, 0))), (3, (0, 0)))
theorem ev_X7_raise_74 : f_X7_raisea [zR 1, zR 2, zI 3, zR 3] h0_X7_raise_74 (zrk (zI 2) h1_X7_raise_74) = true := by decide +kernel
noncomputable def g_X7_raise_74 {d : Nat} : List zV → zH d → zP d → Bool := zsmy [(0, 0), (0, 1), (0, 3)] [zR 1, zR 2, zI 3, zR 3] h0_X7_raise_74 (zI 2) h1_X7_raise_74
theorem mg_X7_raise_74 {d : Nat} : zMet (d := d) X_X7_raise yX7_raise 2 g_X7_raise_74 := zMet_sm m_X7_raisea ev_X7_raise_74
noncomputable def h0_X7_raise_75 : zH 2 := (show zT 2 from ((zk_99_zs1_64_X7_raise_4, (0, 2, 0x10000000004)), ((0, 5, 0x10000000001000000000100000000010000000004), (0, 0, 0))), (3, (0, 0)))
noncomputable def h1_X7_raise_75 : zH 2 := (show zT 2 from ((zk_99_zs1_64_X7_raise_4, (0, 2, 0x10000000004)), zk_99_zs1_64_X7_raise_5), (3, (0, 0)))
theorem ev_X7_raise_75 : f_X7_raisea [zR 1, zR 2, zI 4, zR 3] h0_X7_raise_75 (zrk (zI 5) h1_X7_raise_75) = true := by decide +kernel
noncomputable def g_X7_raise_75 {d : Nat} : List zV → zH d → zP d → Bool := zsmy [(0, 0), (0, 1), (0, 3)] [zR 1, zR 2, zI 4, zR 3] h0_X7_raise_75 (zI 5) h1_X7_raise_75
theorem mg_X7_raise_75 {d : Nat} : zMet (d := d) X_X7_raise yX7_raise 2 g_X7_raise_75 := zMet_sm m_X7_raisea ev_X7_raise_75
noncomputable def h0_X7_raise_76 : zH 2 := (show zT 2 from ((zk_99_zs1_64_X7_raise_4, (0, 2, 0x10000000004)), zk_99_zs1_64_X7_raise_5), (3, (0, 0)))
noncomputable def h1_X7_raise_76 : zH 2 := (show zT 2 from ((zk_99_zs1_64_X7_raise_4, (0, 2, 0x10000000004)), ((0, 5, 0x10000000001000000000100000000010000000004), (0, 0, 0))), (3, (0, 0)))
theorem ev_X7_raise_76 : f_X7_raisea [zR 1, zR 2, zI 5, zR 3] h0_X7_raise_76 (zrk (zI 2) h1_X7_raise_76) = true := by decide +kernel
noncomputable def g_X7_raise_76 {d : Nat} : List zV → zH d → zP d → Bool := zsmy [(0, 0), (0, 1), (0, 3)] [zR 1, zR 2, zI 5, zR 3] h0_X7_raise_76 (zI 2) h1_X7_raise_76
theorem mg_X7_raise_76 {d : Nat} : zMet (d := d) X_X7_raise yX7_raise 2 g_X7_raise_76 := zMet_sm m_X7_raisea ev_X7_raise_76
noncomputable def h0_X7_raise_77 : zH 2 := (show zT 2 from ((zk_99_zs1_64_X7_raise_4, (0, 2, 0x10000000004)), ((0, 5, 0x10000000001000000000100000000010000000004), (0, 0, 0))), (3, (0, 0)))
noncomputable def h1_X7_raise_77 : zH 2 := (show zT 2 from ((zk_99_zs1_64_X7_raise_4, (0, 2, 0x10000000004)), zk_99_zs1_64_X7_raise_7), (3, (0, 0)))
theorem ev_X7_raise_77 : f_X7_raisea [zR 1, zR 2, zI 6, zR 3] h0_X7_raise_77 (zrk (zI 3) h1_X7_raise_77) = true := by decide +kernel
noncomputable def g_X7_raise_77 {d : Nat} : List zV → zH d → zP d → Bool := zsmy [(0, 0), (0, 1), (0, 3)] [zR 1, zR 2, zI 6, zR 3] h0_X7_raise_77 (zI 3) h1_X7_raise_77
theorem mg_X7_raise_77 {d : Nat} : zMet (d := d) X_X7_raise yX7_raise 2 g_X7_raise_77 := zMet_sm m_X7_raisea ev_X7_raise_77
noncomputable def h0_X7_raise_78 : zH 2 := (show zT 2 from ((zk_99_zs1_64_X7_raise_4, (0, 2, 0x20000000003)), zk_99_zs1_64_X7_raise_7), (3, (0, 0)))
noncomputable def h1_X7_raise_78 : zH 2 := (show zT 2 from ((zk_99_zs1_64_X7_raise_4, (0, 2, 0x20000000003)), ((0, 5, 0x10000000001000000000100000000020000000003), (0, 0, 0))), (3, (0, 0)))
theorem ev_X7_raise_78 : f_X7_raisea [zR 1, zR 2, zI 1, zR 3] h0_X7_raise_78 (zrk (zI 2) h1_X7_raise_78) = true := by decide +kernel
noncomputable def g_X7_raise_78 {d : Nat} : List zV → zH d → zP d → Bool := zsmy [(0, 0), (0, 1), (0, 3)] [zR 1, zR 2, zI 1, zR 3] h0_X7_raise_78 (zI 2) h1_X7_raise_78
theorem mg_X7_raise_78 {d : Nat} : zMet (d := d) X_X7_raise yX7_raise 2 g_X7_raise_78 := zMet_sm m_X7_raisea ev_X7_raise_78
noncomputable def h0_X7_raise_79 : zH 2 := (show zT 2 from ((zk_99_zs1_64_X7_raise_4, (0, 2, 0x20000000003)), ((0, 5, 0x10000000001000000000100000000020000000003), (0, 0, 0))), (3, (0, 0)))
noncomputable def zk_99_zs1_64_X7_raise_8 : zT 1 := @Prod.mk (zT 0) (zT 0) (0, 5, 0x10000000001000000000100000000010000000003) (0, 0, 0)
noncomputable def h1_X7_raise_79 : zH 2 := (show zT 2 from ((zk_99_zs1_64_X7_raise_4, (0, 2, 0x20000000003)), zk_99_zs1_64_X7_raise_8), (3, (0, 0)))
theorem ev_X7_raise_79 : f_X7_raisea [zR 1, zR 2, zI 2, zR 3] h0_X7_raise_79 (zrk (zI 3) h1_X7_raise_79) = true := by decide +kernel
noncomputable def g_X7_raise_79 {d : Nat} : List zV → zH d → zP d → Bool := zsmy [(0, 0), (0, 1), (0, 3)] [zR 1, zR 2, zI 2, zR 3] h0_X7_raise_79 (zI 3) h1_X7_raise_79
theorem mg_X7_raise_79 {d : Nat} : zMet (d := d) X_X7_raise yX7_raise 2 g_X7_raise_79 := zMet_sm m_X7_raisea ev_X7_raise_79
noncomputable def h0_X7_raise_80 : zH 2 := (show zT 2 from ((zk_99_zs1_64_X7_raise_4, (0, 2, 0x20000000003)), zk_99_zs1_64_X7_raise_8), (3, (0, 0)))
noncomputable def zk_99_zs1_64_X7_raise_9 : zT 1 := @Prod.mk (zT 0) (zT 0) (0, 5, 0x10000000001000000000100000000010000000002) (0, 0, 0)
noncomputable def h1_X7_raise_80 : zH 2 := (show zT 2 from ((zk_99_zs1_64_X7_raise_4, (0, 2, 0x20000000003)), zk_99_zs1_64_X7_raise_9), (3, (0, 0)))
theorem ev_X7_raise_80 : f_X7_raisea [zR 1, zR 2, zI 3, zR 3] h0_X7_raise_80 (zrk (zI 4) h1_X7_raise_80) = true := by decide +kernel
noncomputable def g_X7_raise_80 {d : Nat} : List zV → zH d → zP d → Bool := zsmy [(0, 0), (0, 1), (0, 3)] [zR 1, zR 2, zI 3, zR 3] h0_X7_raise_80 (zI 4) h1_X7_raise_80
theorem mg_X7_raise_80 {d : Nat} : zMet (d := d) X_X7_raise yX7_raise 2 g_X7_raise_80 := zMet_sm m_X7_raisea ev_X7_raise_80
noncomputable def h0_X7_raise_81 : zH 2 := (show zT 2 from ((zk_99_zs1_64_X7_raise_4, (0, 2, 0x20000000003)), zk_99_zs1_64_X7_raise_9), (3, (0, 0)))
noncomputable def h1_X7_raise_81 : zH 2 := (show zT 2 from ((zk_99_zs1_64_X7_raise_4, (0, 2, 0x20000000003)), zk_99_zs1_64_X7_raise_8), (3, (0, 0)))
theorem ev_X7_raise_81 : f_X7_raisea [zR 1, zR 2, zI 4, zR 3] h0_X7_raise_81 (zrk (zI 3) h1_X7_raise_81) = true := by decide +kernel
noncomputable def g_X7_raise_81 {d : Nat} : List zV → zH d → zP d → Bool := zsmy [(0, 0), (0, 1), (0, 3)] [zR 1, zR 2, zI 4, zR 3] h0_X7_raise_81 (zI 3) h1_X7_raise_81
theorem mg_X7_raise_81 {d : Nat} : zMet (d := d) X_X7_raise yX7_raise 2 g_X7_raise_81 := zMet_sm m_X7_raisea ev_X7_raise_81
noncomputable def h0_X7_raise_82 : zH 2 := (show zT 2 from ((zk_99_zs1_64_X7_raise_4, (0, 2, 0x20000000003)), zk_99_zs1_64_X7_raise_8), (3, (0, 0)))
noncomputable def h1_X7_raise_82 : zH 2 := (show zT 2 from ((zk_99_zs1_64_X7_raise_4, (0, 2, 0x20000000003)), ((0, 5, 0x10000000001000000000100000000020000000003), (0, 0, 0))), (3, (0, 0)))
theorem ev_X7_raise_82 : f_X7_raisea [zR 1, zR 2, zI 5, zR 3] h0_X7_raise_82 (zrk (zI 2) h1_X7_raise_82) = true := by decide +kernel
noncomputable def g_X7_raise_82 {d : Nat} : List zV → zH d → zP d → Bool := zsmy [(0, 0), (0, 1), (0, 3)] [zR 1, zR 2, zI 5, zR 3] h0_X7_raise_82 (zI 2) h1_X7_raise_82
theorem mg_X7_raise_82 {d : Nat} : zMet (d := d) X_X7_raise yX7_raise 2 g_X7_raise_82 := zMet_sm m_X7_raisea ev_X7_raise_82
noncomputable def h0_X7_raise_83 : zH 2 := (show zT 2 from ((zk_99_zs1_64_X7_raise_4, (0, 2, 0x20000000003)), ((0, 5, 0x10000000001000000000100000000020000000003), (0, 0, 0))), (3, (0, 0)))
noncomputable def h1_X7_raise_83 : zH 2 := (show zT 2 from ((zk_99_zs1_64_X7_raise_4, (0, 2, 0x20000000003)), zk_99_zs1_64_X7_raise_5), (3, (0, 0)))
theorem ev_X7_raise_83 : f_X7_raisea [zR 1, zR 2, zI 6, zR 3] h0_X7_raise_83 (zrk (zI 5) h1_X7_raise_83) = true := by decide +kernel
noncomputable def g_X7_raise_83 {d : Nat} : List zV → zH d → zP d → Bool := zsmy [(0, 0), (0, 1), (0, 3)] [zR 1, zR 2, zI 6, zR 3] h0_X7_raise_83 (zI 5) h1_X7_raise_83
theorem mg_X7_raise_83 {d : Nat} : zMet (d := d) X_X7_raise yX7_raise 2 g_X7_raise_83 := zMet_sm m_X7_raisea ev_X7_raise_83
noncomputable def h0_X7_raise_84 : zH 2 := (show zT 2 from ((zk_99_zs1_64_X7_raise_4, (0, 3, 0x100000000010000000003)), zk_99_zs1_64_X7_raise_5), (3, (0, 0)))
noncomputable def h1_X7_raise_84 : zH 2 := (show zT 2 from ((zk_99_zs1_64_X7_raise_4, (0, 3, 0x100000000010000000003)), zk_99_zs1_64_X7_raise_8), (3, (0, 0)))
theorem ev_X7_raise_84 : f_X7_raisea [zR 1, zR 2, zI 1, zR 3] h0_X7_raise_84 (zrk (zI 3) h1_X7_raise_84) = true := by decide +kernel
noncomputable def g_X7_raise_84 {d : Nat} : List zV → zH d → zP d → Bool := zsmy [(0, 0), (0, 1), (0, 3)] [zR 1, zR 2, zI 1, zR 3] h0_X7_raise_84 (zI 3) h1_X7_raise_84
theorem mg_X7_raise_84 {d : Nat} : zMet (d := d) X_X7_raise yX7_raise 2 g_X7_raise_84 := zMet_sm m_X7_raisea ev_X7_raise_84
noncomputable def h0_X7_raise_85 : zH 2 := (show zT 2 from ((zk_99_zs1_64_X7_raise_4, (0, 3, 0x100000000010000000003)), zk_99_zs1_64_X7_raise_8), (3, (0, 0)))
noncomputable def h1_X7_raise_85 : zH 2 := (show zT 2 from ((zk_99_zs1_64_X7_raise_4, (0, 3, 0x100000000010000000003)), zk_99_zs1_64_X7_raise_8), (3, (0, 0)))
theorem ev_X7_raise_85 : f_X7_raisea [zR 1, zR 2, zI 2, zR 3] h0_X7_raise_85 (zrk (zI 3) h1_X7_raise_85) = true := by decide +kernel
noncomputable def g_X7_raise_85 {d : Nat} : List zV → zH d → zP d → Bool := zsmy [(0, 0), (0, 1), (0, 3)] [zR 1, zR 2, zI 2, zR 3] h0_X7_raise_85 (zI 3) h1_X7_raise_85
theorem mg_X7_raise_85 {d : Nat} : zMet (d := d) X_X7_raise yX7_raise 2 g_X7_raise_85 := zMet_sm m_X7_raisea ev_X7_raise_85
noncomputable def h0_X7_raise_86 : zH 2 := (show zT 2 from ((zk_99_zs1_64_X7_raise_4, (0, 3, 0x100000000010000000003)), zk_99_zs1_64_X7_raise_8), (3, (0, 0)))
noncomputable def h1_X7_raise_86 : zH 2 := (show zT 2 from ((zk_99_zs1_64_X7_raise_4, (0, 3, 0x100000000010000000003)), zk_99_zs1_64_X7_raise_5), (3, (0, 0)))
theorem ev_X7_raise_86 : f_X7_raisea [zR 1, zR 2, zI 3, zR 3] h0_X7_raise_86 (zrk (zI 5) h1_X7_raise_86) = true := by decide +kernel
noncomputable def g_X7_raise_86 {d : Nat} : List zV → zH d → zP d → Bool := zsmy [(0, 0), (0, 1), (0, 3)] [zR 1, zR 2, zI 3, zR 3] h0_X7_raise_86 (zI 5) h1_X7_raise_86
theorem mg_X7_raise_86 {d : Nat} : zMet (d := d) X_X7_raise yX7_raise 2 g_X7_raise_86 := zMet_sm m_X7_raisea ev_X7_raise_86
noncomputable def h0_X7_raise_87 : zH 2 := (show zT 2 from ((zk_99_zs1_64_X7_raise_4, (0, 3, 0x100000000010000000003)), zk_99_zs1_64_X7_raise_5), (3, (0, 0)))
noncomputable def h1_X7_raise_87 : zH 2 := (show zT 2 from ((zk_99_zs1_64_X7_raise_4, (0, 3, 0x100000000010000000003)), zk_99_zs1_64_X7_raise_8), (3, (0, 0)))
theorem ev_X7_raise_87 : f_X7_raisea [zR 1, zR 2, zI 4, zR 3] h0_X7_raise_87 (zrk (zI 3) h1_X7_raise_87) = true := by decide +kernel
noncomputable def g_X7_raise_87 {d : Nat} : List zV → zH d → zP d → Bool := zsmy [(0, 0), (0, 1), (0, 3)] [zR 1, zR 2, zI 4, zR 3] h0_X7_raise_87 (zI 3) h1_X7_raise_87
theorem mg_X7_raise_87 {d : Nat} : zMet (d := d) X_X7_raise yX7_raise 2 g_X7_raise_87 := zMet_sm m_X7_raisea ev_X7_raise_87
noncomputable def h0_X7_raise_88 : zH 2 := (show zT 2 from ((zk_99_zs1_64_X7_raise_4, (0, 3, 0x100000000010000000003)), zk_99_zs1_64_X7_raise_8), (3, (0, 0)))
noncomputable def h1_X7_raise_88 : zH 2 := (show zT 2 from ((zk_99_zs1_64_X7_raise_4, (0, 3, 0x100000000010000000003)), zk_99_zs1_64_X7_raise_8), (3, (0, 0)))
theorem ev_X7_raise_88 : f_X7_raisea [zR 1, zR 2, zI 5, zR 3] h0_X7_raise_88 (zrk (zI 3) h1_X7_raise_88) = true := by decide +kernel
noncomputable def g_X7_raise_88 {d : Nat} : List zV → zH d → zP d → Bool := zsmy [(0, 0), (0, 1), (0, 3)] [zR 1, zR 2, zI 5, zR 3] h0_X7_raise_88 (zI 3) h1_X7_raise_88
theorem mg_X7_raise_88 {d : Nat} : zMet (d := d) X_X7_raise yX7_raise 2 g_X7_raise_88 := zMet_sm m_X7_raisea ev_X7_raise_88
noncomputable def h0_X7_raise_89 : zH 2 := (show zT 2 from ((zk_99_zs1_64_X7_raise_4, (0, 3, 0x100000000010000000003)), zk_99_zs1_64_X7_raise_8), (3, (0, 0)))
noncomputable def h1_X7_raise_89 : zH 2 := (show zT 2 from ((zk_99_zs1_64_X7_raise_4, (0, 3, 0x100000000010000000003)), zk_99_zs1_64_X7_raise_5), (3, (0, 0)))
theorem ev_X7_raise_89 : f_X7_raisea [zR 1, zR 2, zI 6, zR 3] h0_X7_raise_89 (zrk (zI 5) h1_X7_raise_89) = true := by decide +kernel
noncomputable def g_X7_raise_89 {d : Nat} : List zV → zH d → zP d → Bool := zsmy [(0, 0), (0, 1), (0, 3)] [zR 1, zR 2, zI 6, zR 3] h0_X7_raise_89 (zI 5) h1_X7_raise_89
theorem mg_X7_raise_89 {d : Nat} : zMet (d := d) X_X7_raise yX7_raise 2 g_X7_raise_89 := zMet_sm m_X7_raisea ev_X7_raise_89
noncomputable def h0_X7_raise_90 : zH 2 := (show zT 2 from ((zk_99_zs1_64_X7_raise_4, (0, 3, 0x100000000020000000002)), zk_99_zs1_64_X7_raise_5), (3, (0, 0)))
noncomputable def h1_X7_raise_90 : zH 2 := (show zT 2 from ((zk_99_zs1_64_X7_raise_4, (0, 3, 0x100000000020000000002)), zk_99_zs1_64_X7_raise_7), (3, (0, 0)))
theorem ev_X7_raise_90 : f_X7_raisea [zR 1, zR 2, zI 1, zR 3] h0_X7_raise_90 (zrk (zI 3) h1_X7_raise_90) = true := by decide +kernel
noncomputable def g_X7_raise_90 {d : Nat} : List zV → zH d → zP d → Bool := zsmy [(0, 0), (0, 1), (0, 3)] [zR 1, zR 2, zI 1, zR 3] h0_X7_raise_90 (zI 3) h1_X7_raise_90
theorem mg_X7_raise_90 {d : Nat} : zMet (d := d) X_X7_raise yX7_raise 2 g_X7_raise_90 := zMet_sm m_X7_raisea ev_X7_raise_90
noncomputable def h0_X7_raise_91 : zH 2 := (show zT 2 from ((zk_99_zs1_64_X7_raise_4, (0, 3, 0x100000000020000000002)), zk_99_zs1_64_X7_raise_7), (3, (0, 0)))
noncomputable def h1_X7_raise_91 : zH 2 := (show zT 2 from ((zk_99_zs1_64_X7_raise_4, (0, 3, 0x100000000020000000002)), zk_99_zs1_64_X7_raise_5), (3, (0, 0)))
theorem ev_X7_raise_91 : f_X7_raisea [zR 1, zR 2, zI 2, zR 3] h0_X7_raise_91 (zrk (zI 5) h1_X7_raise_91) = true := by decide +kernel
noncomputable def g_X7_raise_91 {d : Nat} : List zV → zH d → zP d → Bool := zsmy [(0, 0), (0, 1), (0, 3)] [zR 1, zR 2, zI 2, zR 3] h0_X7_raise_91 (zI 5) h1_X7_raise_91
theorem mg_X7_raise_91 {d : Nat} : zMet (d := d) X_X7_raise yX7_raise 2 g_X7_raise_91 := zMet_sm m_X7_raisea ev_X7_raise_91
noncomputable def h0_X7_raise_92 : zH 2 := (show zT 2 from ((zk_99_zs1_64_X7_raise_4, (0, 3, 0x100000000020000000002)), zk_99_zs1_64_X7_raise_5), (3, (0, 0)))
noncomputable def h1_X7_raise_92 : zH 2 := (show zT 2 from ((zk_99_zs1_64_X7_raise_4, (0, 3, 0x100000000020000000002)), zk_99_zs1_64_X7_raise_7), (3, (0, 0)))
theorem ev_X7_raise_92 : f_X7_raisea [zR 1, zR 2, zI 3, zR 3] h0_X7_raise_92 (zrk (zI 3) h1_X7_raise_92) = true := by decide +kernel
noncomputable def g_X7_raise_92 {d : Nat} : List zV → zH d → zP d → Bool := zsmy [(0, 0), (0, 1), (0, 3)] [zR 1, zR 2, zI 3, zR 3] h0_X7_raise_92 (zI 3) h1_X7_raise_92
theorem mg_X7_raise_92 {d : Nat} : zMet (d := d) X_X7_raise yX7_raise 2 g_X7_raise_92 := zMet_sm m_X7_raisea ev_X7_raise_92
noncomputable def h0_X7_raise_93 : zH 2 := (show zT 2 from ((zk_99_zs1_64_X7_raise_4, (0, 3, 0x100000000020000000002)), zk_99_zs1_64_X7_raise_7), (3, (0, 0)))
noncomputable def h1_X7_raise_93 : zH 2 := (show zT 2 from ((zk_99_zs1_64_X7_raise_4, (0, 3, 0x100000000020000000002)), zk_99_zs1_64_X7_raise_5), (3, (0, 0)))
theorem ev_X7_raise_93 : f_X7_raisea [zR 1, zR 2, zI 4, zR 3] h0_X7_raise_93 (zrk (zI 5) h1_X7_raise_93) = true := by decide +kernel
noncomputable def g_X7_raise_93 {d : Nat} : List zV → zH d → zP d → Bool := zsmy [(0, 0), (0, 1), (0, 3)] [zR 1, zR 2, zI 4, zR 3] h0_X7_raise_93 (zI 5) h1_X7_raise_93
theorem mg_X7_raise_93 {d : Nat} : zMet (d := d) X_X7_raise yX7_raise 2 g_X7_raise_93 := zMet_sm m_X7_raisea ev_X7_raise_93
noncomputable def h0_X7_raise_94 : zH 2 := (show zT 2 from ((zk_99_zs1_64_X7_raise_4, (0, 3, 0x100000000020000000002)), zk_99_zs1_64_X7_raise_5), (3, (0, 0)))
noncomputable def h1_X7_raise_94 : zH 2 := (show zT 2 from ((zk_99_zs1_64_X7_raise_4, (0, 3, 0x100000000020000000002)), zk_99_zs1_64_X7_raise_7), (3, (0, 0)))
theorem ev_X7_raise_94 : f_X7_raisea [zR 1, zR 2, zI 5, zR 3] h0_X7_raise_94 (zrk (zI 3) h1_X7_raise_94) = true := by decide +kernel
noncomputable def g_X7_raise_94 {d : Nat} : List zV → zH d → zP d → Bool := zsmy [(0, 0), (0, 1), (0, 3)] [zR 1, zR 2, zI 5, zR 3] h0_X7_raise_94 (zI 3) h1_X7_raise_94
theorem mg_X7_raise_94 {d : Nat} : zMet (d := d) X_X7_raise yX7_raise 2 g_X7_raise_94 := zMet_sm m_X7_raisea ev_X7_raise_94
noncomputable def h0_X7_raise_95 : zH 2 := (show zT 2 from ((zk_99_zs1_64_X7_raise_4, (0, 3, 0x100000000020000000002)), zk_99_zs1_64_X7_raise_7), (3, (0, 0)))
noncomputable def h1_X7_raise_95 : zH 2 := (show zT 2 from ((zk_99_zs1_64_X7_raise_4, (0, 3, 0x100000000020000000002)), zk_99_zs1_64_X7_raise_5), (3, (0, 0)))
theorem ev_X7_raise_95 : f_X7_raisea [zR 1, zR 2, zI 6, zR 3] h0_X7_raise_95 (zrk (zI 5) h1_X7_raise_95) = true := by decide +kernel
noncomputable def g_X7_raise_95 {d : Nat} : List zV → zH d → zP d → Bool := zsmy [(0, 0), (0, 1), (0, 3)] [zR 1, zR 2, zI 6, zR 3] h0_X7_raise_95 (zI 5) h1_X7_raise_95
theorem mg_X7_raise_95 {d : Nat} : zMet (d := d) X_X7_raise yX7_raise 2 g_X7_raise_95 := zMet_sm m_X7_raisea ev_X7_raise_95
noncomputable def zk_99_zs1_64_X7_raise_10 : zT 1 := @Prod.mk (zT 0) (zT 0) zk_99_zs1_64_X7_raise_4 (0, 4, 0x1000000000100000000010000000002)
noncomputable def h0_X7_raise_96 : zH 2 := (show zT 2 from (zk_99_zs1_64_X7_raise_10, zk_99_zs1_64_X7_raise_5), (3, (0, 0)))
noncomputable def h1_X7_raise_96 : zH 2 := (show zT 2 from (zk_99_zs1_64_X7_raise_10, zk_99_zs1_64_X7_raise_9), (3, (0, 0)))
theorem ev_X7_raise_96 : f_X7_raisea [zR 1, zR 2, zI 1, zR 3] h0_X7_raise_96 (zrk (zI 4) h1_X7_raise_96) = true := by decide +kernel
noncomputable def g_X7_raise_96 {d : Nat} : List zV → zH d → zP d → Bool := zsmy [(0, 0), (0, 1), (0, 3)] [zR 1, zR 2, zI 1, zR 3] h0_X7_raise_96 (zI 4) h1_X7_raise_96
theorem mg_X7_raise_96 {d : Nat} : zMet (d := d) X_X7_raise yX7_raise 2 g_X7_raise_96 := zMet_sm m_X7_raisea ev_X7_raise_96
noncomputable def h0_X7_raise_97 : zH 2 := (show zT 2 from (zk_99_zs1_64_X7_raise_10, zk_99_zs1_64_X7_raise_9), (3, (0, 0)))
noncomputable def h1_X7_raise_97 : zH 2 := (show zT 2 from (zk_99_zs1_64_X7_raise_10, zk_99_zs1_64_X7_raise_5), (3, (0, 0)))
theorem ev_X7_raise_97 : f_X7_raisea [zR 1, zR 2, zI 2, zR 3] h0_X7_raise_97 (zrk (zI 5) h1_X7_raise_97) = true := by decide +kernel
noncomputable def g_X7_raise_97 {d : Nat} : List zV → zH d → zP d → Bool := zsmy [(0, 0), (0, 1), (0, 3)] [zR 1, zR 2, zI 2, zR 3] h0_X7_raise_97 (zI 5) h1_X7_raise_97
theorem mg_X7_raise_97 {d : Nat} : zMet (d := d) X_X7_raise yX7_raise 2 g_X7_raise_97 := zMet_sm m_X7_raisea ev_X7_raise_97
noncomputable def h0_X7_raise_98 : zH 2 := (show zT 2 from (zk_99_zs1_64_X7_raise_10, zk_99_zs1_64_X7_raise_5), (3, (0, 0)))
noncomputable def h1_X7_raise_98 : zH 2 := (show zT 2 from (zk_99_zs1_64_X7_raise_10, zk_99_zs1_64_X7_raise_9), (3, (0, 0)))
theorem ev_X7_raise_98 : f_X7_raisea [zR 1, zR 2, zI 3, zR 3] h0_X7_raise_98 (zrk (zI 4) h1_X7_raise_98) = true := by decide +kernel
noncomputable def g_X7_raise_98 {d : Nat} : List zV → zH d → zP d → Bool := zsmy [(0, 0), (0, 1), (0, 3)] [zR 1, zR 2, zI 3, zR 3] h0_X7_raise_98 (zI 4) h1_X7_raise_98
theorem mg_X7_raise_98 {d : Nat} : zMet (d := d) X_X7_raise yX7_raise 2 g_X7_raise_98 := zMet_sm m_X7_raisea ev_X7_raise_98
noncomputable def h0_X7_raise_99 : zH 2 := (show zT 2 from (zk_99_zs1_64_X7_raise_10, zk_99_zs1_64_X7_raise_9), (3, (0, 0)))
noncomputable def h1_X7_raise_99 : zH 2 := (show zT 2 from (zk_99_zs1_64_X7_raise_10, zk_99_zs1_64_X7_raise_5), (3, (0, 0)))
theorem ev_X7_raise_99 : f_X7_raisea [zR 1, zR 2, zI 4, zR 3] h0_X7_raise_99 (zrk (zI 5) h1_X7_raise_99) = true := by decide +kernel
noncomputable def g_X7_raise_99 {d : Nat} : List zV → zH d → zP d → Bool := zsmy [(0, 0), (0, 1), (0, 3)] [zR 1, zR 2, zI 4, zR 3] h0_X7_raise_99 (zI 5) h1_X7_raise_99
theorem mg_X7_raise_99 {d : Nat} : zMet (d := d) X_X7_raise yX7_raise 2 g_X7_raise_99 := zMet_sm m_X7_raisea ev_X7_raise_99
noncomputable def h0_X7_raise_100 : zH 2 := (show zT 2 from (zk_99_zs1_64_X7_raise_10, zk_99_zs1_64_X7_raise_5), (3, (0, 0)))
noncomputable def h1_X7_raise_100 : zH 2 := (show zT 2 from (zk_99_zs1_64_X7_raise_10, zk_99_zs1_64_X7_raise_9), (3, (0, 0)))
theorem ev_X7_raise_100 : f_X7_raisea [zR 1, zR 2, zI 5, zR 3] h0_X7_raise_100 (zrk (zI 4) h1_X7_raise_100) = true := by decide +kernel
noncomputable def g_X7_raise_100 {d : Nat} : List zV → zH d → zP d → Bool := zsmy [(0, 0), (0, 1), (0, 3)] [zR 1, zR 2, zI 5, zR 3] h0_X7_raise_100 (zI 4) h1_X7_raise_100
theorem mg_X7_raise_100 {d : Nat} : zMet (d := d) X_X7_raise yX7_raise 2 g_X7_raise_100 := zMet_sm m_X7_raisea ev_X7_raise_100
noncomputable def h0_X7_raise_101 : zH 2 := (show zT 2 from (zk_99_zs1_64_X7_raise_10, zk_99_zs1_64_X7_raise_9), (3, (0, 0)))
noncomputable def h1_X7_raise_101 : zH 2 := (show zT 2 from (zk_99_zs1_64_X7_raise_10, zk_99_zs1_64_X7_raise_5), (3, (0, 0)))
theorem ev_X7_raise_101 : f_X7_raisea [zR 1, zR 2, zI 6, zR 3] h0_X7_raise_101 (zrk (zI 5) h1_X7_raise_101) = true := by decide +kernel
noncomputable def g_X7_raise_101 {d : Nat} : List zV → zH d → zP d → Bool := zsmy [(0, 0), (0, 1), (0, 3)] [zR 1, zR 2, zI 6, zR 3] h0_X7_raise_101 (zI 5) h1_X7_raise_101
theorem mg_X7_raise_101 {d : Nat} : zMet (d := d) X_X7_raise yX7_raise 2 g_X7_raise_101 := zMet_sm m_X7_raisea ev_X7_raise_101
noncomputable def h0_X7_raise_102 : zH 2 := (show zT 2 from ((zk_99_zs1_64_X7_raise_4, (0, 5, 0x10000000001000000000100000000010000000001)), zk_99_zs1_64_X7_raise_5), (3, (0, 0)))
noncomputable def h1_X7_raise_102 : zH 2 := (show zT 2 from ((zk_99_zs1_64_X7_raise_4, (0, 5, 0x10000000001000000000100000000010000000001)), zk_99_zs1_64_X7_raise_5), (3, (0, 0)))
theorem ev_X7_raise_102 : f_X7_raisea [zR 1, zR 2, zI 1, zR 3] h0_X7_raise_102 (zrk (zI 5) h1_X7_raise_102) = true := by decide +kernel
noncomputable def g_X7_raise_102 {d : Nat} : List zV → zH d → zP d → Bool := zsmy [(0, 0), (0, 1), (0, 3)] [zR 1, zR 2, zI 1, zR 3] h0_X7_raise_102 (zI 5) h1_X7_raise_102
theorem mg_X7_raise_102 {d : Nat} : zMet (d := d) X_X7_raise yX7_raise 2 g_X7_raise_102 := zMet_sm m_X7_raisea ev_X7_raise_102
noncomputable def h0_X7_raise_103 : zH 2 := (show zT 2 from ((zk_99_zs1_64_X7_raise_4, (0, 5, 0x10000000001000000000100000000010000000001)), zk_99_zs1_64_X7_raise_5), (3, (0, 0)))
noncomputable def h1_X7_raise_103 : zH 2 := (show zT 2 from ((zk_99_zs1_64_X7_raise_4, (0, 5, 0x10000000001000000000100000000010000000001)), zk_99_zs1_64_X7_raise_5), (3, (0, 0)))
theorem ev_X7_raise_103 : f_X7_raisea [zR 1, zR 2, zI 2, zR 3] h0_X7_raise_103 (zrk (zI 5) h1_X7_raise_103) = true := by decide +kernel
noncomputable def g_X7_raise_103 {d : Nat} : List zV → zH d → zP d → Bool := zsmy [(0, 0), (0, 1), (0, 3)] [zR 1, zR 2, zI 2, zR 3] h0_X7_raise_103 (zI 5) h1_X7_raise_103
theorem mg_X7_raise_103 {d : Nat} : zMet (d := d) X_X7_raise yX7_raise 2 g_X7_raise_103 := zMet_sm m_X7_raisea ev_X7_raise_103
noncomputable def h0_X7_raise_104 : zH 2 := (show zT 2 from ((zk_99_zs1_64_X7_raise_4, (0, 5, 0x10000000001000000000100000000010000000001)), zk_99_zs1_64_X7_raise_5), (3, (0, 0)))
noncomputable def h1_X7_raise_104 : zH 2 := (show zT 2 from ((zk_99_zs1_64_X7_raise_4, (0, 5, 0x10000000001000000000100000000010000000001)), zk_99_zs1_64_X7_raise_5), (3, (0, 0)))
theorem ev_X7_raise_104 : f_X7_raisea [zR 1, zR 2, zI 3, zR 3] h0_X7_raise_104 (zrk (zI 5) h1_X7_raise_104) = true := by decide +kernel
noncomputable def g_X7_raise_104 {d : Nat} : List zV → zH d → zP d → Bool := zsmy [(0, 0), (0, 1), (0, 3)] [zR 1, zR 2, zI 3, zR 3] h0_X7_raise_104 (zI 5) h1_X7_raise_104
theorem mg_X7_raise_104 {d : Nat} : zMet (d := d) X_X7_raise yX7_raise 2 g_X7_raise_104 := zMet_sm m_X7_raisea ev_X7_raise_104
noncomputable def h0_X7_raise_105 : zH 2 := (show zT 2 from ((zk_99_zs1_64_X7_raise_4, (0, 5, 0x10000000001000000000100000000010000000001)), zk_99_zs1_64_X7_raise_5), (3, (0, 0)))
noncomputable def h1_X7_raise_105 : zH 2 := (show zT 2 from ((zk_99_zs1_64_X7_raise_4, (0, 5, 0x10000000001000000000100000000010000000001)), zk_99_zs1_64_X7_raise_5), (3, (0, 0)))
theorem ev_X7_raise_105 : f_X7_raisea [zR 1, zR 2, zI 4, zR 3] h0_X7_raise_105 (zrk (zI 5) h1_X7_raise_105) = true := by decide +kernel
noncomputable def g_X7_raise_105 {d : Nat} : List zV → zH d → zP d → Bool := zsmy [(0, 0), (0, 1), (0, 3)] [zR 1, zR 2, zI 4, zR 3] h0_X7_raise_105 (zI 5) h1_X7_raise_105
theorem mg_X7_raise_105 {d : Nat} : zMet (d := d) X_X7_raise yX7_raise 2 g_X7_raise_105 := zMet_sm m_X7_raisea ev_X7_raise_105
noncomputable def h0_X7_raise_106 : zH 2 := (show zT 2 from ((zk_99_zs1_64_X7_raise_4, (0, 5, 0x10000000001000000000100000000010000000001)), zk_99_zs1_64_X7_raise_5), (3, (0, 0)))
noncomputable def h1_X7_raise_106 : zH 2 := (show zT 2 from ((zk_99_zs1_64_X7_raise_4, (0, 5, 0x10000000001000000000100000000010000000001)), zk_99_zs1_64_X7_raise_5), (3, (0, 0)))
theorem ev_X7_raise_106 : f_X7_raisea [zR 1, zR 2, zI 5, zR 3] h0_X7_raise_106 (zrk (zI 5) h1_X7_raise_106) = true := by decide +kernel
noncomputable def g_X7_raise_106 {d : Nat} : List zV → zH d → zP d → Bool := zsmy [(0, 0), (0, 1), (0, 3)] [zR 1, zR 2, zI 5, zR 3] h0_X7_raise_106 (zI 5) h1_X7_raise_106
theorem mg_X7_raise_106 {d : Nat} : zMet (d := d) X_X7_raise yX7_raise 2 g_X7_raise_106 := zMet_sm m_X7_raisea ev_X7_raise_106
noncomputable def h0_X7_raise_107 : zH 2 := (show zT 2 from ((zk_99_zs1_64_X7_raise_4, (0, 5, 0x10000000001000000000100000000010000000001)), zk_99_zs1_64_X7_raise_5), (3, (0, 0)))
noncomputable def h1_X7_raise_107 : zH 2 := (show zT 2 from ((zk_99_zs1_64_X7_raise_4, (0, 5, 0x10000000001000000000100000000010000000001)), zk_99_zs1_64_X7_raise_5), (3, (0, 0)))
theorem ev_X7_raise_107 : f_X7_raisea [zR 1, zR 2, zI 6, zR 3] h0_X7_raise_107 (zrk (zI 5) h1_X7_raise_107) = true := by decide +kernel
noncomputable def g_X7_raise_107 {d : Nat} : List zV → zH d → zP d → Bool := zsmy [(0, 0), (0, 1), (0, 3)] [zR 1, zR 2, zI 6, zR 3] h0_X7_raise_107 (zI 5) h1_X7_raise_107
theorem mg_X7_raise_107 {d : Nat} : zMet (d := d) X_X7_raise yX7_raise 2 g_X7_raise_107 := zMet_sm m_X7_raisea ev_X7_raise_107
noncomputable def zk_99_zs1_64_X7_raise_11 : zC := (23, 14, 0x800000000d800000000c800000000b800000000a800000000980000000088000000007800000000680000000058000000004800000000380000000020000000006)
noncomputable def h0_X7_raise_108 : zH 2 := (show zT 2 from ((zk_99_zs1_64_X7_raise_11, (0, 1, 6)), ((0, 6, 0), (0, 0, 0))), (3, (0, 0)))
noncomputable def h1_X7_raise_108 : zH 2 := (show zT 2 from ((zk_99_zs1_64_X7_raise_11, (0, 1, 6)), ((0, 6, 6), (0, 0, 0))), (3, (0, 0)))
theorem ev_X7_raise_108 : f_X7_raisea [zR 1, zR 2, zI 1, zR 3] h0_X7_raise_108 (zrk (zI 1) h1_X7_raise_108) = true := by decide +kernel
noncomputable def g_X7_raise_108 {d : Nat} : List zV → zH d → zP d → Bool := zsmy [(0, 0), (0, 1), (0, 3)] [zR 1, zR 2, zI 1, zR 3] h0_X7_raise_108 (zI 1) h1_X7_raise_108
theorem mg_X7_raise_108 {d : Nat} : zMet (d := d) X_X7_raise yX7_raise 2 g_X7_raise_108 := zMet_sm m_X7_raisea ev_X7_raise_108
noncomputable def h0_X7_raise_109 : zH 2 := (show zT 2 from ((zk_99_zs1_64_X7_raise_11, (0, 1, 6)), ((0, 6, 6), (0, 0, 0))), (3, (0, 0)))
noncomputable def h1_X7_raise_109 : zH 2 := (show zT 2 from ((zk_99_zs1_64_X7_raise_11, (0, 1, 6)), ((0, 6, 0x30000000003), (0, 0, 0))), (3, (0, 0)))
theorem ev_X7_raise_109 : f_X7_raisea [zR 1, zR 2, zI 2, zR 3] h0_X7_raise_109 (zrk (zI 2) h1_X7_raise_109) = true := by decide +kernel
noncomputable def g_X7_raise_109 {d : Nat} : List zV → zH d → zP d → Bool := zsmy [(0, 0), (0, 1), (0, 3)] [zR 1, zR 2, zI 2, zR 3] h0_X7_raise_109 (zI 2) h1_X7_raise_109
theorem mg_X7_raise_109 {d : Nat} : zMet (d := d) X_X7_raise yX7_raise 2 g_X7_raise_109 := zMet_sm m_X7_raisea ev_X7_raise_109
noncomputable def h0_X7_raise_110 : zH 2 := (show zT 2 from ((zk_99_zs1_64_X7_raise_11, (0, 1, 6)), ((0, 6, 0x30000000003), (0, 0, 0))), (3, (0, 0)))
noncomputable def h1_X7_raise_110 : zH 2 := (show zT 2 from ((zk_99_zs1_64_X7_raise_11, (0, 1, 6)), ((0, 6, 0x200000000020000000002), (0, 0, 0))), (3, (0, 0)))
theorem ev_X7_raise_110 : f_X7_raisea [zR 1, zR 2, zI 3, zR 3] h0_X7_raise_110 (zrk (zI 3) h1_X7_raise_110) = true := by decide +kernel
noncomputable def g_X7_raise_110 {d : Nat} : List zV → zH d → zP d → Bool := zsmy [(0, 0), (0, 1), (0, 3)] [zR 1, zR 2, zI 3, zR 3] h0_X7_raise_110 (zI 3) h1_X7_raise_110
theorem mg_X7_raise_110 {d : Nat} : zMet (d := d) X_X7_raise yX7_raise 2 g_X7_raise_110 := zMet_sm m_X7_raisea ev_X7_raise_110
noncomputable def h0_X7_raise_111 : zH 2 := (show zT 2 from ((zk_99_zs1_64_X7_raise_11, (0, 1, 6)), ((0, 6, 0x200000000020000000002), (0, 0, 0))), (3, (0, 0)))
noncomputable def h1_X7_raise_111 : zH 2 := (show zT 2 from ((zk_99_zs1_64_X7_raise_11, (0, 1, 6)), ((0, 6, 0x200000000030000000003), (0, 0, 0))), (3, (0, 0)))
theorem ev_X7_raise_111 : f_X7_raisea [zR 1, zR 2, zI 4, zR 3] h0_X7_raise_111 (zrk (zI 2) h1_X7_raise_111) = true := by decide +kernel
noncomputable def g_X7_raise_111 {d : Nat} : List zV → zH d → zP d → Bool := zsmy [(0, 0), (0, 1), (0, 3)] [zR 1, zR 2, zI 4, zR 3] h0_X7_raise_111 (zI 2) h1_X7_raise_111
theorem mg_X7_raise_111 {d : Nat} : zMet (d := d) X_X7_raise yX7_raise 2 g_X7_raise_111 := zMet_sm m_X7_raisea ev_X7_raise_111
noncomputable def h0_X7_raise_112 : zH 2 := (show zT 2 from ((zk_99_zs1_64_X7_raise_11, (0, 1, 6)), ((0, 6, 0x200000000030000000003), (0, 0, 0))), (3, (0, 0)))
noncomputable def h1_X7_raise_112 : zH 2 := (show zT 2 from ((zk_99_zs1_64_X7_raise_11, (0, 1, 6)), ((0, 6, 0x200000000030000000006), (0, 0, 0))), (3, (0, 0)))
theorem ev_X7_raise_112 : f_X7_raisea [zR 1, zR 2, zI 5, zR 3] h0_X7_raise_112 (zrk (zI 1) h1_X7_raise_112) = true := by decide +kernel
noncomputable def g_X7_raise_112 {d : Nat} : List zV → zH d → zP d → Bool := zsmy [(0, 0), (0, 1), (0, 3)] [zR 1, zR 2, zI 5, zR 3] h0_X7_raise_112 (zI 1) h1_X7_raise_112
theorem mg_X7_raise_112 {d : Nat} : zMet (d := d) X_X7_raise yX7_raise 2 g_X7_raise_112 := zMet_sm m_X7_raisea ev_X7_raise_112
noncomputable def h0_X7_raise_113 : zH 2 := (show zT 2 from ((zk_99_zs1_64_X7_raise_11, (0, 1, 6)), ((0, 6, 0x200000000030000000006), (0, 0, 0))), (3, (0, 0)))
noncomputable def zk_99_zs1_64_X7_raise_12 : zC := (0, 6, 0x100000000010000000001000000000100000000010000000001)
noncomputable def h1_X7_raise_113 : zH 2 := (show zT 2 from ((zk_99_zs1_64_X7_raise_11, (0, 1, 6)), (zk_99_zs1_64_X7_raise_12, (0, 0, 0))), (3, (0, 0)))
theorem ev_X7_raise_113 : f_X7_raisea [zR 1, zR 2, zI 6, zR 3] h0_X7_raise_113 (zrk (zI 6) h1_X7_raise_113) = true := by decide +kernel
noncomputable def g_X7_raise_113 {d : Nat} : List zV → zH d → zP d → Bool := zsmy [(0, 0), (0, 1), (0, 3)] [zR 1, zR 2, zI 6, zR 3] h0_X7_raise_113 (zI 6) h1_X7_raise_113
theorem mg_X7_raise_113 {d : Nat} : zMet (d := d) X_X7_raise yX7_raise 2 g_X7_raise_113 := zMet_sm m_X7_raisea ev_X7_raise_113
noncomputable def h0_X7_raise_114 : zH 2 := (show zT 2 from ((zk_99_zs1_64_X7_raise_11, (0, 2, 0x10000000005)), (zk_99_zs1_64_X7_raise_12, (0, 0, 0))), (3, (0, 0)))
noncomputable def zk_99_zs1_64_X7_raise_13 : zT 1 := @Prod.mk (zT 0) (zT 0) (0, 6, 0x100000000010000000001000000000100000000010000000005) (0, 0, 0)
noncomputable def h1_X7_raise_114 : zH 2 := (show zT 2 from ((zk_99_zs1_64_X7_raise_11, (0, 2, 0x10000000005)), zk_99_zs1_64_X7_raise_13), (3, (0, 0)))
theorem ev_X7_raise_114 : f_X7_raisea [zR 1, zR 2, zI 1, zR 3] h0_X7_raise_114 (zrk (zI 2) h1_X7_raise_114) = true := by decide +kernel
noncomputable def g_X7_raise_114 {d : Nat} : List zV → zH d → zP d → Bool := zsmy [(0, 0), (0, 1), (0, 3)] [zR 1, zR 2, zI 1, zR 3] h0_X7_raise_114 (zI 2) h1_X7_raise_114
theorem mg_X7_raise_114 {d : Nat} : zMet (d := d) X_X7_raise yX7_raise 2 g_X7_raise_114 := zMet_sm m_X7_raisea ev_X7_raise_114
noncomputable def h0_X7_raise_115 : zH 2 := (show zT 2 from ((zk_99_zs1_64_X7_raise_11, (0, 2, 0x10000000005)), zk_99_zs1_64_X7_raise_13), (3, (0, 0)))
noncomputable def h1_X7_raise_115 : zH 2 := (show zT 2 from ((zk_99_zs1_64_X7_raise_11, (0, 2, 0x10000000005)), zk_99_zs1_64_X7_raise_13), (3, (0, 0)))
theorem ev_X7_raise_115 : f_X7_raisea [zR 1, zR 2, zI 2, zR 3] h0_X7_raise_115 (zrk (zI 2) h1_X7_raise_115) = true := by decide +kernel
noncomputable def g_X7_raise_115 {d : Nat} : List zV → zH d → zP d → Bool := zsmy [(0, 0), (0, 1), (0, 3)] [zR 1, zR 2, zI 2, zR 3] h0_X7_raise_115 (zI 2) h1_X7_raise_115
theorem mg_X7_raise_115 {d : Nat} : zMet (d := d) X_X7_raise yX7_raise 2 g_X7_raise_115 := zMet_sm m_X7_raisea ev_X7_raise_115
noncomputable def h0_X7_raise_116 : zH 2 := (show zT 2 from ((zk_99_zs1_64_X7_raise_11, (0, 2, 0x10000000005)), zk_99_zs1_64_X7_raise_13), (3, (0, 0)))
noncomputable def h1_X7_raise_116 : zH 2 := (show zT 2 from ((zk_99_zs1_64_X7_raise_11, (0, 2, 0x10000000005)), zk_99_zs1_64_X7_raise_13), (3, (0, 0)))
theorem ev_X7_raise_116 : f_X7_raisea [zR 1, zR 2, zI 3, zR 3] h0_X7_raise_116 (zrk (zI 2) h1_X7_raise_116) = true := by decide +kernel
noncomputable def g_X7_raise_116 {d : Nat} : List zV → zH d → zP d → Bool := zsmy [(0, 0), (0, 1), (0, 3)] [zR 1, zR 2, zI 3, zR 3] h0_X7_raise_116 (zI 2) h1_X7_raise_116
theorem mg_X7_raise_116 {d : Nat} : zMet (d := d) X_X7_raise yX7_raise 2 g_X7_raise_116 := zMet_sm m_X7_raisea ev_X7_raise_116
noncomputable def h0_X7_raise_117 : zH 2 := (show zT 2 from ((zk_99_zs1_64_X7_raise_11, (0, 2, 0x10000000005)), zk_99_zs1_64_X7_raise_13), (3, (0, 0)))
noncomputable def h1_X7_raise_117 : zH 2 := (show zT 2 from ((zk_99_zs1_64_X7_raise_11, (0, 2, 0x10000000005)), zk_99_zs1_64_X7_raise_13), (3, (0, 0)))
theorem ev_X7_raise_117 : f_X7_raisea [zR 1, zR 2, zI 4, zR 3] h0_X7_raise_117 (zrk (zI 2) h1_X7_raise_117) = true := by decide +kernel
noncomputable def g_X7_raise_117 {d : Nat} : List zV → zH d → zP d → Bool := zsmy [(0, 0), (0, 1), (0, 3)] [zR 1, zR 2, zI 4, zR 3] h0_X7_raise_117 (zI 2) h1_X7_raise_117
theorem mg_X7_raise_117 {d : Nat} : zMet (d := d) X_X7_raise yX7_raise 2 g_X7_raise_117 := zMet_sm m_X7_raisea ev_X7_raise_117
noncomputable def h0_X7_raise_118 : zH 2 := (show zT 2 from ((zk_99_zs1_64_X7_raise_11, (0, 2, 0x10000000005)), zk_99_zs1_64_X7_raise_13), (3, (0, 0)))
noncomputable def h1_X7_raise_118 : zH 2 := (show zT 2 from ((zk_99_zs1_64_X7_raise_11, (0, 2, 0x10000000005)), (zk_99_zs1_64_X7_raise_12, (0, 0, 0))), (3, (0, 0)))
theorem ev_X7_raise_118 : f_X7_raisea [zR 1, zR 2, zI 5, zR 3] h0_X7_raise_118 (zrk (zI 6) h1_X7_raise_118) = true := by decide +kernel
noncomputable def g_X7_raise_118 {d : Nat} : List zV → zH d → zP d → Bool := zsmy [(0, 0), (0, 1), (0, 3)] [zR 1, zR 2, zI 5, zR 3] h0_X7_raise_118 (zI 6) h1_X7_raise_118
theorem mg_X7_raise_118 {d : Nat} : zMet (d := d) X_X7_raise yX7_raise 2 g_X7_raise_118 := zMet_sm m_X7_raisea ev_X7_raise_118
noncomputable def h0_X7_raise_119 : zH 2 := (show zT 2 from ((zk_99_zs1_64_X7_raise_11, (0, 2, 0x10000000005)), (zk_99_zs1_64_X7_raise_12, (0, 0, 0))), (3, (0, 0)))
noncomputable def h1_X7_raise_119 : zH 2 := (show zT 2 from ((zk_99_zs1_64_X7_raise_11, (0, 2, 0x10000000005)), zk_99_zs1_64_X7_raise_13), (3, (0, 0)))
theorem ev_X7_raise_119 : f_X7_raisea [zR 1, zR 2, zI 6, zR 3] h0_X7_raise_119 (zrk (zI 2) h1_X7_raise_119) = true := by decide +kernel
noncomputable def g_X7_raise_119 {d : Nat} : List zV → zH d → zP d → Bool := zsmy [(0, 0), (0, 1), (0, 3)] [zR 1, zR 2, zI 6, zR 3] h0_X7_raise_119 (zI 2) h1_X7_raise_119
theorem mg_X7_raise_119 {d : Nat} : zMet (d := d) X_X7_raise yX7_raise 2 g_X7_raise_119 := zMet_sm m_X7_raisea ev_X7_raise_119
noncomputable def h0_X7_raise_120 : zH 2 := (show zT 2 from ((zk_99_zs1_64_X7_raise_11, (0, 2, 0x20000000004)), zk_99_zs1_64_X7_raise_13), (3, (0, 0)))
noncomputable def h1_X7_raise_120 : zH 2 := (show zT 2 from ((zk_99_zs1_64_X7_raise_11, (0, 2, 0x20000000004)), ((0, 6, 0x100000000010000000001000000000100000000020000000004), (0, 0, 0))), (3, (0, 0)))
theorem ev_X7_raise_120 : f_X7_raisea [zR 1, zR 2, zI 1, zR 3] h0_X7_raise_120 (zrk (zI 2) h1_X7_raise_120) = true := by decide +kernel
noncomputable def g_X7_raise_120 {d : Nat} : List zV → zH d → zP d → Bool := zsmy [(0, 0), (0, 1), (0, 3)] [zR 1, zR 2, zI 1, zR 3] h0_X7_raise_120 (zI 2) h1_X7_raise_120
theorem mg_X7_raise_120 {d : Nat} : zMet (d := d) X_X7_raise yX7_raise 2 g_X7_raise_120 := zMet_sm m_X7_raisea ev_X7_raise_120
noncomputable def h0_X7_raise_121 : zH 2 := (show zT 2 from ((zk_99_zs1_64_X7_raise_11, (0, 2, 0x20000000004)), ((0, 6, 0x100000000010000000001000000000100000000020000000004), (0, 0, 0))), (3, (0, 0)))
noncomputable def zk_99_zs1_64_X7_raise_14 : zT 1 := @Prod.mk (zT 0) (zT 0) (0, 6, 0x100000000010000000001000000000100000000020000000002) (0, 0, 0)
noncomputable def h1_X7_raise_121 : zH 2 := (show zT 2 from ((zk_99_zs1_64_X7_raise_11, (0, 2, 0x20000000004)), zk_99_zs1_64_X7_raise_14), (3, (0, 0)))
theorem ev_X7_raise_121 : f_X7_raisea [zR 1, zR 2, zI 2, zR 3] h0_X7_raise_121 (zrk (zI 4) h1_X7_raise_121) = true := by decide +kernel
noncomputable def g_X7_raise_121 {d : Nat} : List zV → zH d → zP d → Bool := zsmy [(0, 0), (0, 1), (0, 3)] [zR 1, zR 2, zI 2, zR 3] h0_X7_raise_121 (zI 4) h1_X7_raise_121
theorem mg_X7_raise_121 {d : Nat} : zMet (d := d) X_X7_raise yX7_raise 2 g_X7_raise_121 := zMet_sm m_X7_raisea ev_X7_raise_121
noncomputable def h0_X7_raise_122 : zH 2 := (show zT 2 from ((zk_99_zs1_64_X7_raise_11, (0, 2, 0x20000000004)), zk_99_zs1_64_X7_raise_14), (3, (0, 0)))
noncomputable def h1_X7_raise_122 : zH 2 := (show zT 2 from ((zk_99_zs1_64_X7_raise_11, (0, 2, 0x20000000004)), ((0, 6, 0x100000000010000000001000000000100000000020000000004), (0, 0, 0))), (3, (0, 0)))
theorem ev_X7_raise_122 : f_X7_raisea [zR 1, zR 2, zI 3, zR 3] h0_X7_raise_122 (zrk (zI 2) h1_X7_raise_122) = true := by decide +kernel
noncomputable def g_X7_raise_122 {d : Nat} : List zV → zH d → zP d → Bool := zsmy [(0, 0), (0, 1), (0, 3)] [zR 1, zR 2, zI 3, zR 3] h0_X7_raise_122 (zI 2) h1_X7_raise_122
theorem mg_X7_raise_122 {d : Nat} : zMet (d := d) X_X7_raise yX7_raise 2 g_X7_raise_122 := zMet_sm m_X7_raisea ev_X7_raise_122
noncomputable def h0_X7_raise_123 : zH 2 := (show zT 2 from ((zk_99_zs1_64_X7_raise_11, (0, 2, 0x20000000004)), ((0, 6, 0x100000000010000000001000000000100000000020000000004), (0, 0, 0))), (3, (0, 0)))
noncomputable def h1_X7_raise_123 : zH 2 := (show zT 2 from ((zk_99_zs1_64_X7_raise_11, (0, 2, 0x20000000004)), (zk_99_zs1_64_X7_raise_12, (0, 0, 0))), (3, (0, 0)))
theorem ev_X7_raise_123 : f_X7_raisea [zR 1, zR 2, zI 4, zR 3] h0_X7_raise_123 (zrk (zI 6) h1_X7_raise_123) = true := by decide +kernel
noncomputable def g_X7_raise_123 {d : Nat} : List zV → zH d → zP d → Bool := zsmy [(0, 0), (0, 1), (0, 3)] [zR 1, zR 2, zI 4, zR 3] h0_X7_raise_123 (zI 6) h1_X7_raise_123
theorem mg_X7_raise_123 {d : Nat} : zMet (d := d) X_X7_raise yX7_raise 2 g_X7_raise_123 := zMet_sm m_X7_raisea ev_X7_raise_123
noncomputable def h0_X7_raise_124 : zH 2 := (show zT 2 from ((zk_99_zs1_64_X7_raise_11, (0, 2, 0x20000000004)), (zk_99_zs1_64_X7_raise_12, (0, 0, 0))), (3, (0, 0)))
noncomputable def h1_X7_raise_124 : zH 2 := (show zT 2 from ((zk_99_zs1_64_X7_raise_11, (0, 2, 0x20000000004)), ((0, 6, 0x100000000010000000001000000000100000000020000000004), (0, 0, 0))), (3, (0, 0)))
theorem ev_X7_raise_124 : f_X7_raisea [zR 1, zR 2, zI 5, zR 3] h0_X7_raise_124 (zrk (zI 2) h1_X7_raise_124) = true := by decide +kernel
noncomputable def g_X7_raise_124 {d : Nat} : List zV → zH d → zP d → Bool := zsmy [(0, 0), (0, 1), (0, 3)] [zR 1, zR 2, zI 5, zR 3] h0_X7_raise_124 (zI 2) h1_X7_raise_124
theorem mg_X7_raise_124 {d : Nat} : zMet (d := d) X_X7_raise yX7_raise 2 g_X7_raise_124 := zMet_sm m_X7_raisea ev_X7_raise_124
noncomputable def h0_X7_raise_125 : zH 2 := (show zT 2 from ((zk_99_zs1_64_X7_raise_11, (0, 2, 0x20000000004)), ((0, 6, 0x100000000010000000001000000000100000000020000000004), (0, 0, 0))), (3, (0, 0)))
noncomputable def h1_X7_raise_125 : zH 2 := (show zT 2 from ((zk_99_zs1_64_X7_raise_11, (0, 2, 0x20000000004)), zk_99_zs1_64_X7_raise_14), (3, (0, 0)))
theorem ev_X7_raise_125 : f_X7_raisea [zR 1, zR 2, zI 6, zR 3] h0_X7_raise_125 (zrk (zI 4) h1_X7_raise_125) = true := by decide +kernel
noncomputable def g_X7_raise_125 {d : Nat} : List zV → zH d → zP d → Bool := zsmy [(0, 0), (0, 1), (0, 3)] [zR 1, zR 2, zI 6, zR 3] h0_X7_raise_125 (zI 4) h1_X7_raise_125
theorem mg_X7_raise_125 {d : Nat} : zMet (d := d) X_X7_raise yX7_raise 2 g_X7_raise_125 := zMet_sm m_X7_raisea ev_X7_raise_125
noncomputable def h0_X7_raise_126 : zH 2 := (show zT 2 from ((zk_99_zs1_64_X7_raise_11, (0, 3, 0x100000000010000000004)), zk_99_zs1_64_X7_raise_14), (3, (0, 0)))
noncomputable def h1_X7_raise_126 : zH 2 := (show zT 2 from ((zk_99_zs1_64_X7_raise_11, (0, 3, 0x100000000010000000004)), ((0, 6, 0x100000000010000000001000000000100000000010000000004), (0, 0, 0))), (3, (0, 0)))
theorem ev_X7_raise_126 : f_X7_raisea [zR 1, zR 2, zI 1, zR 3] h0_X7_raise_126 (zrk (zI 3) h1_X7_raise_126) = true := by decide +kernel
noncomputable def g_X7_raise_126 {d : Nat} : List zV → zH d → zP d → Bool := zsmy [(0, 0), (0, 1), (0, 3)] [zR 1, zR 2, zI 1, zR 3] h0_X7_raise_126 (zI 3) h1_X7_raise_126
theorem mg_X7_raise_126 {d : Nat} : zMet (d := d) X_X7_raise yX7_raise 2 g_X7_raise_126 := zMet_sm m_X7_raisea ev_X7_raise_126
noncomputable def h0_X7_raise_127 : zH 2 := (show zT 2 from ((zk_99_zs1_64_X7_raise_11, (0, 3, 0x100000000010000000004)), ((0, 6, 0x100000000010000000001000000000100000000010000000004), (0, 0, 0))), (3, (0, 0)))
noncomputable def h1_X7_raise_127 : zH 2 := (show zT 2 from ((zk_99_zs1_64_X7_raise_11, (0, 3, 0x100000000010000000004)), zk_99_zs1_64_X7_raise_14), (3, (0, 0)))
theorem ev_X7_raise_127 : f_X7_raisea [zR 1, zR 2, zI 2, zR 3] h0_X7_raise_127 (zrk (zI 4) h1_X7_raise_127) = true := by decide +kernel
noncomputable def g_X7_raise_127 {d : Nat} : List zV → zH d → zP d → Bool := zsmy [(0, 0), (0, 1), (0, 3)] [zR 1, zR 2, zI 2, zR 3] h0_X7_raise_127 (zI 4) h1_X7_raise_127
theorem mg_X7_raise_127 {d : Nat} : zMet (d := d) X_X7_raise yX7_raise 2 g_X7_raise_127 := zMet_sm m_X7_raisea ev_X7_raise_127
noncomputable def h0_X7_raise_128 : zH 2 := (show zT 2 from ((zk_99_zs1_64_X7_raise_11, (0, 3, 0x100000000010000000004)), zk_99_zs1_64_X7_raise_14), (3, (0, 0)))
noncomputable def h1_X7_raise_128 : zH 2 := (show zT 2 from ((zk_99_zs1_64_X7_raise_11, (0, 3, 0x100000000010000000004)), ((0, 6, 0x100000000010000000001000000000100000000010000000004), (0, 0, 0))), (3, (0, 0)))
theorem ev_X7_raise_128 : f_X7_raisea [zR 1, zR 2, zI 3, zR 3] h0_X7_raise_128 (zrk (zI 3) h1_X7_raise_128) = true := by decide +kernel
noncomputable def g_X7_raise_128 {d : Nat} : List zV → zH d → zP d → Bool := zsmy [(0, 0), (0, 1), (0, 3)] [zR 1, zR 2, zI 3, zR 3] h0_X7_raise_128 (zI 3) h1_X7_raise_128
theorem mg_X7_raise_128 {d : Nat} : zMet (d := d) X_X7_raise yX7_raise 2 g_X7_raise_128 := zMet_sm m_X7_raisea ev_X7_raise_128
noncomputable def h0_X7_raise_129 : zH 2 := (show zT 2 from ((zk_99_zs1_64_X7_raise_11, (0, 3, 0x100000000010000000004)), ((0, 6, 0x100000000010000000001000000000100000000010000000004), (0, 0, 0))), (3, (0, 0)))
noncomputable def h1_X7_raise_129 : zH 2 := (show zT 2 from ((zk_99_zs1_64_X7_raise_11, (0, 3, 0x100000000010000000004)), (zk_99_zs1_64_X7_raise_12, (0, 0, 0))), (3, (0, 0)))
theorem ev_X7_raise_129 : f_X7_raisea [zR 1, zR 2, zI 4, zR 3] h0_X7_raise_129 (zrk (zI 6) h1_X7_raise_129) = true := by decide +kernel
noncomputable def g_X7_raise_129 {d : Nat} : List zV → zH d → zP d → Bool := zsmy [(0, 0), (0, 1), (0, 3)] [zR 1, zR 2, zI 4, zR 3] h0_X7_raise_129 (zI 6) h1_X7_raise_129
theorem mg_X7_raise_129 {d : Nat} : zMet (d := d) X_X7_raise yX7_raise 2 g_X7_raise_129 := zMet_sm m_X7_raisea ev_X7_raise_129
noncomputable def h0_X7_raise_130 : zH 2 := (show zT 2 from ((zk_99_zs1_64_X7_raise_11, (0, 3, 0x100000000010000000004)), (zk_99_zs1_64_X7_raise_12, (0, 0, 0))), (3, (0, 0)))
noncomputable def h1_X7_raise_130 : zH 2 := (show zT 2 from ((zk_99_zs1_64_X7_raise_11, (0, 3, 0x100000000010000000004)), ((0, 6, 0x100000000010000000001000000000100000000010000000004), (0, 0, 0))), (3, (0, 0)))
theorem ev_X7_raise_130 : f_X7_raisea [zR 1, zR 2, zI 5, zR 3] h0_X7_raise_130 (zrk (zI 3) h1_X7_raise_130) = true := by decide +kernel
noncomputable def g_X7_raise_130 {d : Nat} : List zV → zH d → zP d → Bool := zsmy [(0, 0), (0, 1), (0, 3)] [zR 1, zR 2, zI 5, zR 3] h0_X7_raise_130 (zI 3) h1_X7_raise_130
theorem mg_X7_raise_130 {d : Nat} : zMet (d := d) X_X7_raise yX7_raise 2 g_X7_raise_130 := zMet_sm m_X7_raisea ev_X7_raise_130
noncomputable def h0_X7_raise_131 : zH 2 := (show zT 2 from ((zk_99_zs1_64_X7_raise_11, (0, 3, 0x100000000010000000004)), ((0, 6, 0x100000000010000000001000000000100000000010000000004), (0, 0, 0))), (3, (0, 0)))
noncomputable def h1_X7_raise_131 : zH 2 := (show zT 2 from ((zk_99_zs1_64_X7_raise_11, (0, 3, 0x100000000010000000004)), zk_99_zs1_64_X7_raise_14), (3, (0, 0)))
theorem ev_X7_raise_131 : f_X7_raisea [zR 1, zR 2, zI 6, zR 3] h0_X7_raise_131 (zrk (zI 4) h1_X7_raise_131) = true := by decide +kernel
noncomputable def g_X7_raise_131 {d : Nat} : List zV → zH d → zP d → Bool := zsmy [(0, 0), (0, 1), (0, 3)] [zR 1, zR 2, zI 6, zR 3] h0_X7_raise_131 (zI 4) h1_X7_raise_131
theorem mg_X7_raise_131 {d : Nat} : zMet (d := d) X_X7_raise yX7_raise 2 g_X7_raise_131 := zMet_sm m_X7_raisea ev_X7_raise_131
noncomputable def h0_X7_raise_132 : zH 2 := (show zT 2 from ((zk_99_zs1_64_X7_raise_11, (0, 2, 0x30000000003)), zk_99_zs1_64_X7_raise_14), (3, (0, 0)))
noncomputable def h1_X7_raise_132 : zH 2 := (show zT 2 from ((zk_99_zs1_64_X7_raise_11, (0, 2, 0x30000000003)), ((0, 6, 0x100000000010000000001000000000100000000030000000003), (0, 0, 0))), (3, (0, 0)))
theorem ev_X7_raise_132 : f_X7_raisea [zR 1, zR 2, zI 1, zR 3] h0_X7_raise_132 (zrk (zI 2) h1_X7_raise_132) = true := by decide +kernel
noncomputable def g_X7_raise_132 {d : Nat} : List zV → zH d → zP d → Bool := zsmy [(0, 0), (0, 1), (0, 3)] [zR 1, zR 2, zI 1, zR 3] h0_X7_raise_132 (zI 2) h1_X7_raise_132
theorem mg_X7_raise_132 {d : Nat} : zMet (d := d) X_X7_raise yX7_raise 2 g_X7_raise_132 := zMet_sm m_X7_raisea ev_X7_raise_132
noncomputable def h0_X7_raise_133 : zH 2 := (show zT 2 from ((zk_99_zs1_64_X7_raise_11, (0, 2, 0x30000000003)), ((0, 6, 0x100000000010000000001000000000100000000030000000003), (0, 0, 0))), (3, (0, 0)))
noncomputable def h1_X7_raise_133 : zH 2 := (show zT 2 from ((zk_99_zs1_64_X7_raise_11, (0, 2, 0x30000000003)), ((0, 6, 0x100000000010000000001000000000100000000030000000003), (0, 0, 0))), (3, (0, 0)))
theorem ev_X7_raise_133 : f_X7_raisea [zR 1, zR 2, zI 2, zR 3] h0_X7_raise_133 (zrk (zI 2) h1_X7_raise_133) = true := by decide +kernel
noncomputable def g_X7_raise_133 {d : Nat} : List zV → zH d → zP d → Bool := zsmy [(0, 0), (0, 1), (0, 3)] [zR 1, zR 2, zI 2, zR 3] h0_X7_raise_133 (zI 2) h1_X7_raise_133
theorem mg_X7_raise_133 {d : Nat} : zMet (d := d) X_X7_raise yX7_raise 2 g_X7_raise_133 := zMet_sm m_X7_raisea ev_X7_raise_133
noncomputable def h0_X7_raise_134 : zH 2 := (show zT 2 from ((zk_99_zs1_64_X7_raise_11, (0, 2, 0x30000000003)), ((0, 6, 0x100000000010000000001000000000100000000030000000003), (0, 0, 0))), (3, (0, 0)))
noncomputable def h1_X7_raise_134 : zH 2 := (show zT 2 from ((zk_99_zs1_64_X7_raise_11, (0, 2, 0x30000000003)), (zk_99_zs1_64_X7_raise_12, (0, 0, 0))), (3, (0, 0)))
theorem ev_X7_raise_134 : f_X7_raisea [zR 1, zR 2, zI 3, zR 3] h0_X7_raise_134 (zrk (zI 6) h1_X7_raise_134) = true := by decide +kernel
noncomputable def g_X7_raise_134 {d : Nat} : List zV → zH d → zP d → Bool := zsmy [(0, 0), (0, 1), (0, 3)] [zR 1, zR 2, zI 3, zR 3] h0_X7_raise_134 (zI 6) h1_X7_raise_134
theorem mg_X7_raise_134 {d : Nat} : zMet (d := d) X_X7_raise yX7_raise 2 g_X7_raise_134 := zMet_sm m_X7_raisea ev_X7_raise_134
noncomputable def h0_X7_raise_135 : zH 2 := (show zT 2 from ((zk_99_zs1_64_X7_raise_11, (0, 2, 0x30000000003)), (zk_99_zs1_64_X7_raise_12, (0, 0, 0))), (3, (0, 0)))
noncomputable def h1_X7_raise_135 : zH 2 := (show zT 2 from ((zk_99_zs1_64_X7_raise_11, (0, 2, 0x30000000003)), ((0, 6, 0x100000000010000000001000000000100000000030000000003), (0, 0, 0))), (3, (0, 0)))
theorem ev_X7_raise_135 : f_X7_raisea [zR 1, zR 2, zI 4, zR 3] h0_X7_raise_135 (zrk (zI 2) h1_X7_raise_135) = true := by decide +kernel
noncomputable def g_X7_raise_135 {d : Nat} : List zV → zH d → zP d → Bool := zsmy [(0, 0), (0, 1), (0, 3)] [zR 1, zR 2, zI 4, zR 3] h0_X7_raise_135 (zI 2) h1_X7_raise_135
theorem mg_X7_raise_135 {d : Nat} : zMet (d := d) X_X7_raise yX7_raise 2 g_X7_raise_135 := zMet_sm m_X7_raisea ev_X7_raise_135
noncomputable def h0_X7_raise_136 : zH 2 := (show zT 2 from ((zk_99_zs1_64_X7_raise_11, (0, 2, 0x30000000003)), ((0, 6, 0x100000000010000000001000000000100000000030000000003), (0, 0, 0))), (3, (0, 0)))
noncomputable def h1_X7_raise_136 : zH 2 := (show zT 2 from ((zk_99_zs1_64_X7_raise_11, (0, 2, 0x30000000003)), ((0, 6, 0x100000000010000000001000000000100000000030000000003), (0, 0, 0))), (3, (0, 0)))
theorem ev_X7_raise_136 : f_X7_raisea [zR 1, zR 2, zI 5, zR 3] h0_X7_raise_136 (zrk (zI 2) h1_X7_raise_136) = true := by decide +kernel
noncomputable def g_X7_raise_136 {d : Nat} : List zV → zH d → zP d → Bool := zsmy [(0, 0), (0, 1), (0, 3)] [zR 1, zR 2, zI 5, zR 3] h0_X7_raise_136 (zI 2) h1_X7_raise_136
theorem mg_X7_raise_136 {d : Nat} : zMet (d := d) X_X7_raise yX7_raise 2 g_X7_raise_136 := zMet_sm m_X7_raisea ev_X7_raise_136
noncomputable def h0_X7_raise_137 : zH 2 := (show zT 2 from ((zk_99_zs1_64_X7_raise_11, (0, 2, 0x30000000003)), ((0, 6, 0x100000000010000000001000000000100000000030000000003), (0, 0, 0))), (3, (0, 0)))
noncomputable def h1_X7_raise_137 : zH 2 := (show zT 2 from ((zk_99_zs1_64_X7_raise_11, (0, 2, 0x30000000003)), (zk_99_zs1_64_X7_raise_12, (0, 0, 0))), (3, (0, 0)))
theorem ev_X7_raise_137 : f_X7_raisea [zR 1, zR 2, zI 6, zR 3] h0_X7_raise_137 (zrk (zI 6) h1_X7_raise_137) = true := by decide +kernel
noncomputable def g_X7_raise_137 {d : Nat} : List zV → zH d → zP d → Bool := zsmy [(0, 0), (0, 1), (0, 3)] [zR 1, zR 2, zI 6, zR 3] h0_X7_raise_137 (zI 6) h1_X7_raise_137
theorem mg_X7_raise_137 {d : Nat} : zMet (d := d) X_X7_raise yX7_raise 2 g_X7_raise_137 := zMet_sm m_X7_raisea ev_X7_raise_137
noncomputable def h0_X7_raise_138 : zH 2 := (show zT 2 from ((zk_99_zs1_64_X7_raise_11, (0, 3, 0x100000000020000000003)), (zk_99_zs1_64_X7_raise_12, (0, 0, 0))), (3, (0, 0)))
noncomputable def h1_X7_raise_138 : zH 2 := (show zT 2 from ((zk_99_zs1_64_X7_raise_11, (0, 3, 0x100000000020000000003)), ((0, 6, 0x100000000010000000001000000000100000000020000000003), (0, 0, 0))), (3, (0, 0)))
theorem ev_X7_raise_138 : f_X7_raisea [zR 1, zR 2, zI 1, zR 3] h0_X7_raise_138 (zrk (zI 3) h1_X7_raise_138) = true := by decide +kernel
noncomputable def g_X7_raise_138 {d : Nat} : List zV → zH d → zP d → Bool := zsmy [(0, 0), (0, 1), (0, 3)] [zR 1, zR 2, zI 1, zR 3] h0_X7_raise_138 (zI 3) h1_X7_raise_138
theorem mg_X7_raise_138 {d : Nat} : zMet (d := d) X_X7_raise yX7_raise 2 g_X7_raise_138 := zMet_sm m_X7_raisea ev_X7_raise_138
noncomputable def h0_X7_raise_139 : zH 2 := (show zT 2 from ((zk_99_zs1_64_X7_raise_11, (0, 3, 0x100000000020000000003)), ((0, 6, 0x100000000010000000001000000000100000000020000000003), (0, 0, 0))), (3, (0, 0)))
noncomputable def zk_99_zs1_64_X7_raise_15 : zT 1 := @Prod.mk (zT 0) (zT 0) (0, 6, 0x100000000010000000001000000000100000000010000000003) (0, 0, 0)
noncomputable def h1_X7_raise_139 : zH 2 := (show zT 2 from ((zk_99_zs1_64_X7_raise_11, (0, 3, 0x100000000020000000003)), zk_99_zs1_64_X7_raise_15), (3, (0, 0)))
theorem ev_X7_raise_139 : f_X7_raisea [zR 1, zR 2, zI 2, zR 3] h0_X7_raise_139 (zrk (zI 4) h1_X7_raise_139) = true := by decide +kernel
noncomputable def g_X7_raise_139 {d : Nat} : List zV → zH d → zP d → Bool := zsmy [(0, 0), (0, 1), (0, 3)] [zR 1, zR 2, zI 2, zR 3] h0_X7_raise_139 (zI 4) h1_X7_raise_139
theorem mg_X7_raise_139 {d : Nat} : zMet (d := d) X_X7_raise yX7_raise 2 g_X7_raise_139 := zMet_sm m_X7_raisea ev_X7_raise_139
noncomputable def h0_X7_raise_140 : zH 2 := (show zT 2 from ((zk_99_zs1_64_X7_raise_11, (0, 3, 0x100000000020000000003)), zk_99_zs1_64_X7_raise_15), (3, (0, 0)))
noncomputable def zk_99_zs1_64_X7_raise_16 : zT 1 := @Prod.mk (zT 0) (zT 0) (0, 6, 0x100000000010000000001000000000100000000010000000002) (0, 0, 0)
noncomputable def h1_X7_raise_140 : zH 2 := (show zT 2 from ((zk_99_zs1_64_X7_raise_11, (0, 3, 0x100000000020000000003)), zk_99_zs1_64_X7_raise_16), (3, (0, 0)))
theorem ev_X7_raise_140 : f_X7_raisea [zR 1, zR 2, zI 3, zR 3] h0_X7_raise_140 (zrk (zI 5) h1_X7_raise_140) = true := by decide +kernel
noncomputable def g_X7_raise_140 {d : Nat} : List zV → zH d → zP d → Bool := zsmy [(0, 0), (0, 1), (0, 3)] [zR 1, zR 2, zI 3, zR 3] h0_X7_raise_140 (zI 5) h1_X7_raise_140
theorem mg_X7_raise_140 {d : Nat} : zMet (d := d) X_X7_raise yX7_raise 2 g_X7_raise_140 := zMet_sm m_X7_raisea ev_X7_raise_140
noncomputable def h0_X7_raise_141 : zH 2 := (show zT 2 from ((zk_99_zs1_64_X7_raise_11, (0, 3, 0x100000000020000000003)), zk_99_zs1_64_X7_raise_16), (3, (0, 0)))
noncomputable def h1_X7_raise_141 : zH 2 := (show zT 2 from ((zk_99_zs1_64_X7_raise_11, (0, 3, 0x100000000020000000003)), zk_99_zs1_64_X7_raise_15), (3, (0, 0)))
theorem ev_X7_raise_141 : f_X7_raisea [zR 1, zR 2, zI 4, zR 3] h0_X7_raise_141 (zrk (zI 4) h1_X7_raise_141) = true := by decide +kernel
noncomputable def g_X7_raise_141 {d : Nat} : List zV → zH d → zP d → Bool := zsmy [(0, 0), (0, 1), (0, 3)] [zR 1, zR 2, zI 4, zR 3] h0_X7_raise_141 (zI 4) h1_X7_raise_141
theorem mg_X7_raise_141 {d : Nat} : zMet (d := d) X_X7_raise yX7_raise 2 g_X7_raise_141 := zMet_sm m_X7_raisea ev_X7_raise_141
noncomputable def h0_X7_raise_142 : zH 2 := (show zT 2 from ((zk_99_zs1_64_X7_raise_11, (0, 3, 0x100000000020000000003)), zk_99_zs1_64_X7_raise_15), (3, (0, 0)))
noncomputable def h1_X7_raise_142 : zH 2 := (show zT 2 from ((zk_99_zs1_64_X7_raise_11, (0, 3, 0x100000000020000000003)), ((0, 6, 0x100000000010000000001000000000100000000020000000003), (0, 0, 0))), (3, (0, 0)))
theorem ev_X7_raise_142 : f_X7_raisea [zR 1, zR 2, zI 5, zR 3] h0_X7_raise_142 (zrk (zI 3) h1_X7_raise_142) = true := by decide +kernel
noncomputable def g_X7_raise_142 {d : Nat} : List zV → zH d → zP d → Bool := zsmy [(0, 0), (0, 1), (0, 3)] [zR 1, zR 2, zI 5, zR 3] h0_X7_raise_142 (zI 3) h1_X7_raise_142
theorem mg_X7_raise_142 {d : Nat} : zMet (d := d) X_X7_raise yX7_raise 2 g_X7_raise_142 := zMet_sm m_X7_raisea ev_X7_raise_142
noncomputable def h0_X7_raise_143 : zH 2 := (show zT 2 from ((zk_99_zs1_64_X7_raise_11, (0, 3, 0x100000000020000000003)), ((0, 6, 0x100000000010000000001000000000100000000020000000003), (0, 0, 0))), (3, (0, 0)))
noncomputable def h1_X7_raise_143 : zH 2 := (show zT 2 from ((zk_99_zs1_64_X7_raise_11, (0, 3, 0x100000000020000000003)), (zk_99_zs1_64_X7_raise_12, (0, 0, 0))), (3, (0, 0)))
theorem ev_X7_raise_143 : f_X7_raisea [zR 1, zR 2, zI 6, zR 3] h0_X7_raise_143 (zrk (zI 6) h1_X7_raise_143) = true := by decide +kernel
noncomputable def g_X7_raise_143 {d : Nat} : List zV → zH d → zP d → Bool := zsmy [(0, 0), (0, 1), (0, 3)] [zR 1, zR 2, zI 6, zR 3] h0_X7_raise_143 (zI 6) h1_X7_raise_143
theorem mg_X7_raise_143 {d : Nat} : zMet (d := d) X_X7_raise yX7_raise 2 g_X7_raise_143 := zMet_sm m_X7_raisea ev_X7_raise_143
noncomputable def zk_99_zs1_64_X7_raise_17 : zT 1 := @Prod.mk (zT 0) (zT 0) zk_99_zs1_64_X7_raise_11 (0, 4, 0x1000000000100000000010000000003)
noncomputable def h0_X7_raise_144 : zH 2 := (show zT 2 from (zk_99_zs1_64_X7_raise_17, (zk_99_zs1_64_X7_raise_12, (0, 0, 0))), (3, (0, 0)))
noncomputable def h1_X7_raise_144 : zH 2 := (show zT 2 from (zk_99_zs1_64_X7_raise_17, zk_99_zs1_64_X7_raise_15), (3, (0, 0)))
theorem ev_X7_raise_144 : f_X7_raisea [zR 1, zR 2, zI 1, zR 3] h0_X7_raise_144 (zrk (zI 4) h1_X7_raise_144) = true := by decide +kernel
noncomputable def g_X7_raise_144 {d : Nat} : List zV → zH d → zP d → Bool := zsmy [(0, 0), (0, 1), (0, 3)] [zR 1, zR 2, zI 1, zR 3] h0_X7_raise_144 (zI 4) h1_X7_raise_144
theorem mg_X7_raise_144 {d : Nat} : zMet (d := d) X_X7_raise yX7_raise 2 g_X7_raise_144 := zMet_sm m_X7_raisea ev_X7_raise_144
noncomputable def h0_X7_raise_145 : zH 2 := (show zT 2 from (zk_99_zs1_64_X7_raise_17, zk_99_zs1_64_X7_raise_15), (3, (0, 0)))
noncomputable def h1_X7_raise_145 : zH 2 := (show zT 2 from (zk_99_zs1_64_X7_raise_17, zk_99_zs1_64_X7_raise_15), (3, (0, 0)))
theorem ev_X7_raise_145 : f_X7_raisea [zR 1, zR 2, zI 2, zR 3] h0_X7_raise_145 (zrk (zI 4) h1_X7_raise_145) = true := by decide +kernel
noncomputable def g_X7_raise_145 {d : Nat} : List zV → zH d → zP d → Bool := zsmy [(0, 0), (0, 1), (0, 3)] [zR 1, zR 2, zI 2, zR 3] h0_X7_raise_145 (zI 4) h1_X7_raise_145
theorem mg_X7_raise_145 {d : Nat} : zMet (d := d) X_X7_raise yX7_raise 2 g_X7_raise_145 := zMet_sm m_X7_raisea ev_X7_raise_145
noncomputable def h0_X7_raise_146 : zH 2 := (show zT 2 from (zk_99_zs1_64_X7_raise_17, zk_99_zs1_64_X7_raise_15), (3, (0, 0)))
noncomputable def h1_X7_raise_146 : zH 2 := (show zT 2 from (zk_99_zs1_64_X7_raise_17, (zk_99_zs1_64_X7_raise_12, (0, 0, 0))), (3, (0, 0)))
theorem ev_X7_raise_146 : f_X7_raisea [zR 1, zR 2, zI 3, zR 3] h0_X7_raise_146 (zrk (zI 6) h1_X7_raise_146) = true := by decide +kernel
noncomputable def g_X7_raise_146 {d : Nat} : List zV → zH d → zP d → Bool := zsmy [(0, 0), (0, 1), (0, 3)] [zR 1, zR 2, zI 3, zR 3] h0_X7_raise_146 (zI 6) h1_X7_raise_146
theorem mg_X7_raise_146 {d : Nat} : zMet (d := d) X_X7_raise yX7_raise 2 g_X7_raise_146 := zMet_sm m_X7_raisea ev_X7_raise_146
noncomputable def h0_X7_raise_147 : zH 2 := (show zT 2 from (zk_99_zs1_64_X7_raise_17, (zk_99_zs1_64_X7_raise_12, (0, 0, 0))), (3, (0, 0)))
noncomputable def h1_X7_raise_147 : zH 2 := (show zT 2 from (zk_99_zs1_64_X7_raise_17, zk_99_zs1_64_X7_raise_15), (3, (0, 0)))
theorem ev_X7_raise_147 : f_X7_raisea [zR 1, zR 2, zI 4, zR 3] h0_X7_raise_147 (zrk (zI 4) h1_X7_raise_147) = true := by decide +kernel
noncomputable def g_X7_raise_147 {d : Nat} : List zV → zH d → zP d → Bool := zsmy [(0, 0), (0, 1), (0, 3)] [zR 1, zR 2, zI 4, zR 3] h0_X7_raise_147 (zI 4) h1_X7_raise_147
theorem mg_X7_raise_147 {d : Nat} : zMet (d := d) X_X7_raise yX7_raise 2 g_X7_raise_147 := zMet_sm m_X7_raisea ev_X7_raise_147
noncomputable def h0_X7_raise_148 : zH 2 := (show zT 2 from (zk_99_zs1_64_X7_raise_17, zk_99_zs1_64_X7_raise_15), (3, (0, 0)))
noncomputable def h1_X7_raise_148 : zH 2 := (show zT 2 from (zk_99_zs1_64_X7_raise_17, zk_99_zs1_64_X7_raise_15), (3, (0, 0)))
theorem ev_X7_raise_148 : f_X7_raisea [zR 1, zR 2, zI 5, zR 3] h0_X7_raise_148 (zrk (zI 4) h1_X7_raise_148) = true := by decide +kernel
noncomputable def g_X7_raise_148 {d : Nat} : List zV → zH d → zP d → Bool := zsmy [(0, 0), (0, 1), (0, 3)] [zR 1, zR 2, zI 5, zR 3] h0_X7_raise_148 (zI 4) h1_X7_raise_148
theorem mg_X7_raise_148 {d : Nat} : zMet (d := d) X_X7_raise yX7_raise 2 g_X7_raise_148 := zMet_sm m_X7_raisea ev_X7_raise_148
noncomputable def h0_X7_raise_149 : zH 2 := (show zT 2 from (zk_99_zs1_64_X7_raise_17, zk_99_zs1_64_X7_raise_15), (3, (0, 0)))
noncomputable def h1_X7_raise_149 : zH 2 := (show zT 2 from (zk_99_zs1_64_X7_raise_17, (zk_99_zs1_64_X7_raise_12, (0, 0, 0))), (3, (0, 0)))
theorem ev_X7_raise_149 : f_X7_raisea [zR 1, zR 2, zI 6, zR 3] h0_X7_raise_149 (zrk (zI 6) h1_X7_raise_149) = true := by decide +kernel
noncomputable def g_X7_raise_149 {d : Nat} : List zV → zH d → zP d → Bool := zsmy [(0, 0), (0, 1), (0, 3)] [zR 1, zR 2, zI 6, zR 3] h0_X7_raise_149 (zI 6) h1_X7_raise_149
theorem mg_X7_raise_149 {d : Nat} : zMet (d := d) X_X7_raise yX7_raise 2 g_X7_raise_149 := zMet_sm m_X7_raisea ev_X7_raise_149
noncomputable def h0_X7_raise_150 : zH 2 := (show zT 2 from ((zk_99_zs1_64_X7_raise_11, (0, 3, 0x200000000020000000002)), (zk_99_zs1_64_X7_raise_12, (0, 0, 0))), (3, (0, 0)))
noncomputable def h1_X7_raise_150 : zH 2 := (show zT 2 from ((zk_99_zs1_64_X7_raise_11, (0, 3, 0x200000000020000000002)), ((0, 6, 0x100000000010000000001000000000200000000020000000002), (0, 0, 0))), (3, (0, 0)))
theorem ev_X7_raise_150 : f_X7_raisea [zR 1, zR 2, zI 1, zR 3] h0_X7_raise_150 (zrk (zI 3) h1_X7_raise_150) = true := by decide +kernel
noncomputable def g_X7_raise_150 {d : Nat} : List zV → zH d → zP d → Bool := zsmy [(0, 0), (0, 1), (0, 3)] [zR 1, zR 2, zI 1, zR 3] h0_X7_raise_150 (zI 3) h1_X7_raise_150
theorem mg_X7_raise_150 {d : Nat} : zMet (d := d) X_X7_raise yX7_raise 2 g_X7_raise_150 := zMet_sm m_X7_raisea ev_X7_raise_150
noncomputable def h0_X7_raise_151 : zH 2 := (show zT 2 from ((zk_99_zs1_64_X7_raise_11, (0, 3, 0x200000000020000000002)), ((0, 6, 0x100000000010000000001000000000200000000020000000002), (0, 0, 0))), (3, (0, 0)))
noncomputable def h1_X7_raise_151 : zH 2 := (show zT 2 from ((zk_99_zs1_64_X7_raise_11, (0, 3, 0x200000000020000000002)), (zk_99_zs1_64_X7_raise_12, (0, 0, 0))), (3, (0, 0)))
theorem ev_X7_raise_151 : f_X7_raisea [zR 1, zR 2, zI 2, zR 3] h0_X7_raise_151 (zrk (zI 6) h1_X7_raise_151) = true := by decide +kernel
noncomputable def g_X7_raise_151 {d : Nat} : List zV → zH d → zP d → Bool := zsmy [(0, 0), (0, 1), (0, 3)] [zR 1, zR 2, zI 2, zR 3] h0_X7_raise_151 (zI 6) h1_X7_raise_151
theorem mg_X7_raise_151 {d : Nat} : zMet (d := d) X_X7_raise yX7_raise 2 g_X7_raise_151 := zMet_sm m_X7_raisea ev_X7_raise_151
noncomputable def h0_X7_raise_152 : zH 2 := (show zT 2 from ((zk_99_zs1_64_X7_raise_11, (0, 3, 0x200000000020000000002)), (zk_99_zs1_64_X7_raise_12, (0, 0, 0))), (3, (0, 0)))
noncomputable def h1_X7_raise_152 : zH 2 := (show zT 2 from ((zk_99_zs1_64_X7_raise_11, (0, 3, 0x200000000020000000002)), ((0, 6, 0x100000000010000000001000000000200000000020000000002), (0, 0, 0))), (3, (0, 0)))
theorem ev_X7_raise_152 : f_X7_raisea [zR 1, zR 2, zI 3, zR 3] h0_X7_raise_152 (zrk (zI 3) h1_X7_raise_152) = true := by decide +kernel
noncomputable def g_X7_raise_152 {d : Nat} : List zV → zH d → zP d → Bool := zsmy [(0, 0), (0, 1), (0, 3)] [zR 1, zR 2, zI 3, zR 3] h0_X7_raise_152 (zI 3) h1_X7_raise_152
theorem mg_X7_raise_152 {d : Nat} : zMet (d := d) X_X7_raise yX7_raise 2 g_X7_raise_152 := zMet_sm m_X7_raisea ev_X7_raise_152
noncomputable def h0_X7_raise_153 : zH 2 := (show zT 2 from ((zk_99_zs1_64_X7_raise_11, (0, 3, 0x200000000020000000002)), ((0, 6, 0x100000000010000000001000000000200000000020000000002), (0, 0, 0))), (3, (0, 0)))
noncomputable def h1_X7_raise_153 : zH 2 := (show zT 2 from ((zk_99_zs1_64_X7_raise_11, (0, 3, 0x200000000020000000002)), (zk_99_zs1_64_X7_raise_12, (0, 0, 0))), (3, (0, 0)))
theorem ev_X7_raise_153 : f_X7_raisea [zR 1, zR 2, zI 4, zR 3] h0_X7_raise_153 (zrk (zI 6) h1_X7_raise_153) = true := by decide +kernel
noncomputable def g_X7_raise_153 {d : Nat} : List zV → zH d → zP d → Bool := zsmy [(0, 0), (0, 1), (0, 3)] [zR 1, zR 2, zI 4, zR 3] h0_X7_raise_153 (zI 6) h1_X7_raise_153
theorem mg_X7_raise_153 {d : Nat} : zMet (d := d) X_X7_raise yX7_raise 2 g_X7_raise_153 := zMet_sm m_X7_raisea ev_X7_raise_153
noncomputable def h0_X7_raise_154 : zH 2 := (show zT 2 from ((zk_99_zs1_64_X7_raise_11, (0, 3, 0x200000000020000000002)), (zk_99_zs1_64_X7_raise_12, (0, 0, 0))), (3, (0, 0)))
noncomputable def h1_X7_raise_154 : zH 2 := (show zT 2 from ((zk_99_zs1_64_X7_raise_11, (0, 3, 0x200000000020000000002)), ((0, 6, 0x100000000010000000001000000000200000000020000000002), (0, 0, 0))), (3, (0, 0)))
theorem ev_X7_raise_154 : f_X7_raisea [zR 1, zR 2, zI 5, zR 3] h0_X7_raise_154 (zrk (zI 3) h1_X7_raise_154) = true := by decide +kernel
noncomputable def g_X7_raise_154 {d : Nat} : List zV → zH d → zP d → Bool := zsmy [(0, 0), (0, 1), (0, 3)] [zR 1, zR 2, zI 5, zR 3] h0_X7_raise_154 (zI 3) h1_X7_raise_154
theorem mg_X7_raise_154 {d : Nat} : zMet (d := d) X_X7_raise yX7_raise 2 g_X7_raise_154 := zMet_sm m_X7_raisea ev_X7_raise_154
noncomputable def h0_X7_raise_155 : zH 2 := (show zT 2 from ((zk_99_zs1_64_X7_raise_11, (0, 3, 0x200000000020000000002)), ((0, 6, 0x100000000010000000001000000000200000000020000000002), (0, 0, 0))), (3, (0, 0)))
noncomputable def h1_X7_raise_155 : zH 2 := (show zT 2 from ((zk_99_zs1_64_X7_raise_11, (0, 3, 0x200000000020000000002)), (zk_99_zs1_64_X7_raise_12, (0, 0, 0))), (3, (0, 0)))
theorem ev_X7_raise_155 : f_X7_raisea [zR 1, zR 2, zI 6, zR 3] h0_X7_raise_155 (zrk (zI 6) h1_X7_raise_155) = true := by decide +kernel
noncomputable def g_X7_raise_155 {d : Nat} : List zV → zH d → zP d → Bool := zsmy [(0, 0), (0, 1), (0, 3)] [zR 1, zR 2, zI 6, zR 3] h0_X7_raise_155 (zI 6) h1_X7_raise_155
theorem mg_X7_raise_155 {d : Nat} : zMet (d := d) X_X7_raise yX7_raise 2 g_X7_raise_155 := zMet_sm m_X7_raisea ev_X7_raise_155
noncomputable def zk_99_zs1_64_X7_raise_18 : zT 1 := @Prod.mk (zT 0) (zT 0) zk_99_zs1_64_X7_raise_11 (0, 4, 0x1000000000100000000020000000002)
noncomputable def h0_X7_raise_156 : zH 2 := (show zT 2 from (zk_99_zs1_64_X7_raise_18, (zk_99_zs1_64_X7_raise_12, (0, 0, 0))), (3, (0, 0)))
noncomputable def h1_X7_raise_156 : zH 2 := (show zT 2 from (zk_99_zs1_64_X7_raise_18, zk_99_zs1_64_X7_raise_14), (3, (0, 0)))
theorem ev_X7_raise_156 : f_X7_raisea [zR 1, zR 2, zI 1, zR 3] h0_X7_raise_156 (zrk (zI 4) h1_X7_raise_156) = true := by decide +kernel
noncomputable def g_X7_raise_156 {d : Nat} : List zV → zH d → zP d → Bool := zsmy [(0, 0), (0, 1), (0, 3)] [zR 1, zR 2, zI 1, zR 3] h0_X7_raise_156 (zI 4) h1_X7_raise_156
theorem mg_X7_raise_156 {d : Nat} : zMet (d := d) X_X7_raise yX7_raise 2 g_X7_raise_156 := zMet_sm m_X7_raisea ev_X7_raise_156
noncomputable def h0_X7_raise_157 : zH 2 := (show zT 2 from (zk_99_zs1_64_X7_raise_18, zk_99_zs1_64_X7_raise_14), (3, (0, 0)))
noncomputable def h1_X7_raise_157 : zH 2 := (show zT 2 from (zk_99_zs1_64_X7_raise_18, (zk_99_zs1_64_X7_raise_12, (0, 0, 0))), (3, (0, 0)))
theorem ev_X7_raise_157 : f_X7_raisea [zR 1, zR 2, zI 2, zR 3] h0_X7_raise_157 (zrk (zI 6) h1_X7_raise_157) = true := by decide +kernel
noncomputable def g_X7_raise_157 {d : Nat} : List zV → zH d → zP d → Bool := zsmy [(0, 0), (0, 1), (0, 3)] [zR 1, zR 2, zI 2, zR 3] h0_X7_raise_157 (zI 6) h1_X7_raise_157
theorem mg_X7_raise_157 {d : Nat} : zMet (d := d) X_X7_raise yX7_raise 2 g_X7_raise_157 := zMet_sm m_X7_raisea ev_X7_raise_157
noncomputable def h0_X7_raise_158 : zH 2 := (show zT 2 from (zk_99_zs1_64_X7_raise_18, (zk_99_zs1_64_X7_raise_12, (0, 0, 0))), (3, (0, 0)))
noncomputable def h1_X7_raise_158 : zH 2 := (show zT 2 from (zk_99_zs1_64_X7_raise_18, zk_99_zs1_64_X7_raise_14), (3, (0, 0)))
theorem ev_X7_raise_158 : f_X7_raisea [zR 1, zR 2, zI 3, zR 3] h0_X7_raise_158 (zrk (zI 4) h1_X7_raise_158) = true := by decide +kernel
noncomputable def g_X7_raise_158 {d : Nat} : List zV → zH d → zP d → Bool := zsmy [(0, 0), (0, 1), (0, 3)] [zR 1, zR 2, zI 3, zR 3] h0_X7_raise_158 (zI 4) h1_X7_raise_158
theorem mg_X7_raise_158 {d : Nat} : zMet (d := d) X_X7_raise yX7_raise 2 g_X7_raise_158 := zMet_sm m_X7_raisea ev_X7_raise_158
noncomputable def h0_X7_raise_159 : zH 2 := (show zT 2 from (zk_99_zs1_64_X7_raise_18, zk_99_zs1_64_X7_raise_14), (3, (0, 0)))
noncomputable def h1_X7_raise_159 : zH 2 := (show zT 2 from (zk_99_zs1_64_X7_raise_18, (zk_99_zs1_64_X7_raise_12, (0, 0, 0))), (3, (0, 0)))
theorem ev_X7_raise_159 : f_X7_raisea [zR 1, zR 2, zI 4, zR 3] h0_X7_raise_159 (zrk (zI 6) h1_X7_raise_159) = true := by decide +kernel
noncomputable def g_X7_raise_159 {d : Nat} : List zV → zH d → zP d → Bool := zsmy [(0, 0), (0, 1), (0, 3)] [zR 1, zR 2, zI 4, zR 3] h0_X7_raise_159 (zI 6) h1_X7_raise_159
theorem mg_X7_raise_159 {d : Nat} : zMet (d := d) X_X7_raise yX7_raise 2 g_X7_raise_159 := zMet_sm m_X7_raisea ev_X7_raise_159
noncomputable def h0_X7_raise_160 : zH 2 := (show zT 2 from (zk_99_zs1_64_X7_raise_18, (zk_99_zs1_64_X7_raise_12, (0, 0, 0))), (3, (0, 0)))
noncomputable def h1_X7_raise_160 : zH 2 := (show zT 2 from (zk_99_zs1_64_X7_raise_18, zk_99_zs1_64_X7_raise_14), (3, (0, 0)))
theorem ev_X7_raise_160 : f_X7_raisea [zR 1, zR 2, zI 5, zR 3] h0_X7_raise_160 (zrk (zI 4) h1_X7_raise_160) = true := by decide +kernel
noncomputable def g_X7_raise_160 {d : Nat} : List zV → zH d → zP d → Bool := zsmy [(0, 0), (0, 1), (0, 3)] [zR 1, zR 2, zI 5, zR 3] h0_X7_raise_160 (zI 4) h1_X7_raise_160
theorem mg_X7_raise_160 {d : Nat} : zMet (d := d) X_X7_raise yX7_raise 2 g_X7_raise_160 := zMet_sm m_X7_raisea ev_X7_raise_160
noncomputable def h0_X7_raise_161 : zH 2 := (show zT 2 from (zk_99_zs1_64_X7_raise_18, zk_99_zs1_64_X7_raise_14), (3, (0, 0)))
noncomputable def h1_X7_raise_161 : zH 2 := (show zT 2 from (zk_99_zs1_64_X7_raise_18, (zk_99_zs1_64_X7_raise_12, (0, 0, 0))), (3, (0, 0)))
theorem ev_X7_raise_161 : f_X7_raisea [zR 1, zR 2, zI 6, zR 3] h0_X7_raise_161 (zrk (zI 6) h1_X7_raise_161) = true := by decide +kernel
noncomputable def g_X7_raise_161 {d : Nat} : List zV → zH d → zP d → Bool := zsmy [(0, 0), (0, 1), (0, 3)] [zR 1, zR 2, zI 6, zR 3] h0_X7_raise_161 (zI 6) h1_X7_raise_161
theorem mg_X7_raise_161 {d : Nat} : zMet (d := d) X_X7_raise yX7_raise 2 g_X7_raise_161 := zMet_sm m_X7_raisea ev_X7_raise_161
noncomputable def zk_99_zs1_64_X7_raise_19 : zT 1 := @Prod.mk (zT 0) (zT 0) zk_99_zs1_64_X7_raise_11 (0, 5, 0x10000000001000000000100000000010000000002)
noncomputable def h0_X7_raise_162 : zH 2 := (show zT 2 from (zk_99_zs1_64_X7_raise_19, (zk_99_zs1_64_X7_raise_12, (0, 0, 0))), (3, (0, 0)))
noncomputable def h1_X7_raise_162 : zH 2 := (show zT 2 from (zk_99_zs1_64_X7_raise_19, zk_99_zs1_64_X7_raise_16), (3, (0, 0)))
theorem ev_X7_raise_162 : f_X7_raisea [zR 1, zR 2, zI 1, zR 3] h0_X7_raise_162 (zrk (zI 5) h1_X7_raise_162) = true := by decide +kernel
noncomputable def g_X7_raise_162 {d : Nat} : List zV → zH d → zP d → Bool := zsmy [(0, 0), (0, 1), (0, 3)] [zR 1, zR 2, zI 1, zR 3] h0_X7_raise_162 (zI 5) h1_X7_raise_162
theorem mg_X7_raise_162 {d : Nat} : zMet (d := d) X_X7_raise yX7_raise 2 g_X7_raise_162 := zMet_sm m_X7_raisea ev_X7_raise_162
noncomputable def h0_X7_raise_163 : zH 2 := (show zT 2 from (zk_99_zs1_64_X7_raise_19, zk_99_zs1_64_X7_raise_16), (3, (0, 0)))
noncomputable def h1_X7_raise_163 : zH 2 := (show zT 2 from (zk_99_zs1_64_X7_raise_19, (zk_99_zs1_64_X7_raise_12, (0, 0, 0))), (3, (0, 0)))
theorem ev_X7_raise_163 : f_X7_raisea [zR 1, zR 2, zI 2, zR 3] h0_X7_raise_163 (zrk (zI 6) h1_X7_raise_163) = true := by decide +kernel
noncomputable def g_X7_raise_163 {d : Nat} : List zV → zH d → zP d → Bool := zsmy [(0, 0), (0, 1), (0, 3)] [zR 1, zR 2, zI 2, zR 3] h0_X7_raise_163 (zI 6) h1_X7_raise_163
theorem mg_X7_raise_163 {d : Nat} : zMet (d := d) X_X7_raise yX7_raise 2 g_X7_raise_163 := zMet_sm m_X7_raisea ev_X7_raise_163
noncomputable def h0_X7_raise_164 : zH 2 := (show zT 2 from (zk_99_zs1_64_X7_raise_19, (zk_99_zs1_64_X7_raise_12, (0, 0, 0))), (3, (0, 0)))
noncomputable def h1_X7_raise_164 : zH 2 := (show zT 2 from (zk_99_zs1_64_X7_raise_19, zk_99_zs1_64_X7_raise_16), (3, (0, 0)))
theorem ev_X7_raise_164 : f_X7_raisea [zR 1, zR 2, zI 3, zR 3] h0_X7_raise_164 (zrk (zI 5) h1_X7_raise_164) = true := by decide +kernel
noncomputable def g_X7_raise_164 {d : Nat} : List zV → zH d → zP d → Bool := zsmy [(0, 0), (0, 1), (0, 3)] [zR 1, zR 2, zI 3, zR 3] h0_X7_raise_164 (zI 5) h1_X7_raise_164
theorem mg_X7_raise_164 {d : Nat} : zMet (d := d) X_X7_raise yX7_raise 2 g_X7_raise_164 := zMet_sm m_X7_raisea ev_X7_raise_164
noncomputable def h0_X7_raise_165 : zH 2 := (show zT 2 from (zk_99_zs1_64_X7_raise_19, zk_99_zs1_64_X7_raise_16), (3, (0, 0)))
noncomputable def h1_X7_raise_165 : zH 2 := (show zT 2 from (zk_99_zs1_64_X7_raise_19, (zk_99_zs1_64_X7_raise_12, (0, 0, 0))), (3, (0, 0)))
theorem ev_X7_raise_165 : f_X7_raisea [zR 1, zR 2, zI 4, zR 3] h0_X7_raise_165 (zrk (zI 6) h1_X7_raise_165) = true := by decide +kernel
noncomputable def g_X7_raise_165 {d : Nat} : List zV → zH d → zP d → Bool := zsmy [(0, 0), (0, 1), (0, 3)] [zR 1, zR 2, zI 4, zR 3] h0_X7_raise_165 (zI 6) h1_X7_raise_165
theorem mg_X7_raise_165 {d : Nat} : zMet (d := d) X_X7_raise yX7_raise 2 g_X7_raise_165 := zMet_sm m_X7_raisea ev_X7_raise_165
noncomputable def h0_X7_raise_166 : zH 2 := (show zT 2 from (zk_99_zs1_64_X7_raise_19, (zk_99_zs1_64_X7_raise_12, (0, 0, 0))), (3, (0, 0)))
noncomputable def h1_X7_raise_166 : zH 2 := (show zT 2 from (zk_99_zs1_64_X7_raise_19, zk_99_zs1_64_X7_raise_16), (3, (0, 0)))
theorem ev_X7_raise_166 : f_X7_raisea [zR 1, zR 2, zI 5, zR 3] h0_X7_raise_166 (zrk (zI 5) h1_X7_raise_166) = true := by decide +kernel
noncomputable def g_X7_raise_166 {d : Nat} : List zV → zH d → zP d → Bool := zsmy [(0, 0), (0, 1), (0, 3)] [zR 1, zR 2, zI 5, zR 3] h0_X7_raise_166 (zI 5) h1_X7_raise_166
theorem mg_X7_raise_166 {d : Nat} : zMet (d := d) X_X7_raise yX7_raise 2 g_X7_raise_166 := zMet_sm m_X7_raisea ev_X7_raise_166
noncomputable def h0_X7_raise_167 : zH 2 := (show zT 2 from (zk_99_zs1_64_X7_raise_19, zk_99_zs1_64_X7_raise_16), (3, (0, 0)))
noncomputable def h1_X7_raise_167 : zH 2 := (show zT 2 from (zk_99_zs1_64_X7_raise_19, (zk_99_zs1_64_X7_raise_12, (0, 0, 0))), (3, (0, 0)))
theorem ev_X7_raise_167 : f_X7_raisea [zR 1, zR 2, zI 6, zR 3] h0_X7_raise_167 (zrk (zI 6) h1_X7_raise_167) = true := by decide +kernel
noncomputable def g_X7_raise_167 {d : Nat} : List zV → zH d → zP d → Bool := zsmy [(0, 0), (0, 1), (0, 3)] [zR 1, zR 2, zI 6, zR 3] h0_X7_raise_167 (zI 6) h1_X7_raise_167
theorem mg_X7_raise_167 {d : Nat} : zMet (d := d) X_X7_raise yX7_raise 2 g_X7_raise_167 := zMet_sm m_X7_raisea ev_X7_raise_167
noncomputable def h0_X7_raise_168 : zH 2 := (show zT 2 from ((zk_99_zs1_64_X7_raise_11, zk_99_zs1_64_X7_raise_12), (zk_99_zs1_64_X7_raise_12, (0, 0, 0))), (3, (0, 0)))
noncomputable def h1_X7_raise_168 : zH 2 := (show zT 2 from ((zk_99_zs1_64_X7_raise_11, zk_99_zs1_64_X7_raise_12), (zk_99_zs1_64_X7_raise_12, (0, 0, 0))), (3, (0, 0)))
theorem ev_X7_raise_168 : f_X7_raisea [zR 1, zR 2, zI 1, zR 3] h0_X7_raise_168 (zrk (zI 6) h1_X7_raise_168) = true := by decide +kernel
noncomputable def g_X7_raise_168 {d : Nat} : List zV → zH d → zP d → Bool := zsmy [(0, 0), (0, 1), (0, 3)] [zR 1, zR 2, zI 1, zR 3] h0_X7_raise_168 (zI 6) h1_X7_raise_168
theorem mg_X7_raise_168 {d : Nat} : zMet (d := d) X_X7_raise yX7_raise 2 g_X7_raise_168 := zMet_sm m_X7_raisea ev_X7_raise_168
noncomputable def h0_X7_raise_169 : zH 2 := (show zT 2 from ((zk_99_zs1_64_X7_raise_11, zk_99_zs1_64_X7_raise_12), (zk_99_zs1_64_X7_raise_12, (0, 0, 0))), (3, (0, 0)))
noncomputable def h1_X7_raise_169 : zH 2 := (show zT 2 from ((zk_99_zs1_64_X7_raise_11, zk_99_zs1_64_X7_raise_12), (zk_99_zs1_64_X7_raise_12, (0, 0, 0))), (3, (0, 0)))
theorem ev_X7_raise_169 : f_X7_raisea [zR 1, zR 2, zI 2, zR 3] h0_X7_raise_169 (zrk (zI 6) h1_X7_raise_169) = true := by decide +kernel
noncomputable def g_X7_raise_169 {d : Nat} : List zV → zH d → zP d → Bool := zsmy [(0, 0), (0, 1), (0, 3)] [zR 1, zR 2, zI 2, zR 3] h0_X7_raise_169 (zI 6) h1_X7_raise_169
theorem mg_X7_raise_169 {d : Nat} : zMet (d := d) X_X7_raise yX7_raise 2 g_X7_raise_169 := zMet_sm m_X7_raisea ev_X7_raise_169
noncomputable def h0_X7_raise_170 : zH 2 := (show zT 2 from ((zk_99_zs1_64_X7_raise_11, zk_99_zs1_64_X7_raise_12), (zk_99_zs1_64_X7_raise_12, (0, 0, 0))), (3, (0, 0)))
noncomputable def h1_X7_raise_170 : zH 2 := (show zT 2 from ((zk_99_zs1_64_X7_raise_11, zk_99_zs1_64_X7_raise_12), (zk_99_zs1_64_X7_raise_12, (0, 0, 0))), (3, (0, 0)))
theorem ev_X7_raise_170 : f_X7_raisea [zR 1, zR 2, zI 3, zR 3] h0_X7_raise_170 (zrk (zI 6) h1_X7_raise_170) = true := by decide +kernel
noncomputable def g_X7_raise_170 {d : Nat} : List zV → zH d → zP d → Bool := zsmy [(0, 0), (0, 1), (0, 3)] [zR 1, zR 2, zI 3, zR 3] h0_X7_raise_170 (zI 6) h1_X7_raise_170
theorem mg_X7_raise_170 {d : Nat} : zMet (d := d) X_X7_raise yX7_raise 2 g_X7_raise_170 := zMet_sm m_X7_raisea ev_X7_raise_170
noncomputable def h0_X7_raise_171 : zH 2 := (show zT 2 from ((zk_99_zs1_64_X7_raise_11, zk_99_zs1_64_X7_raise_12), (zk_99_zs1_64_X7_raise_12, (0, 0, 0))), (3, (0, 0)))
noncomputable def h1_X7_raise_171 : zH 2 := (show zT 2 from ((zk_99_zs1_64_X7_raise_11, zk_99_zs1_64_X7_raise_12), (zk_99_zs1_64_X7_raise_12, (0, 0, 0))), (3, (0, 0)))
theorem ev_X7_raise_171 : f_X7_raisea [zR 1, zR 2, zI 4, zR 3] h0_X7_raise_171 (zrk (zI 6) h1_X7_raise_171) = true := by decide +kernel
noncomputable def g_X7_raise_171 {d : Nat} : List zV → zH d → zP d → Bool := zsmy [(0, 0), (0, 1), (0, 3)] [zR 1, zR 2, zI 4, zR 3] h0_X7_raise_171 (zI 6) h1_X7_raise_171
theorem mg_X7_raise_171 {d : Nat} : zMet (d := d) X_X7_raise yX7_raise 2 g_X7_raise_171 := zMet_sm m_X7_raisea ev_X7_raise_171
noncomputable def h0_X7_raise_172 : zH 2 := (show zT 2 from ((zk_99_zs1_64_X7_raise_11, zk_99_zs1_64_X7_raise_12), (zk_99_zs1_64_X7_raise_12, (0, 0, 0))), (3, (0, 0)))
noncomputable def h1_X7_raise_172 : zH 2 := (show zT 2 from ((zk_99_zs1_64_X7_raise_11, zk_99_zs1_64_X7_raise_12), (zk_99_zs1_64_X7_raise_12, (0, 0, 0))), (3, (0, 0)))
theorem ev_X7_raise_172 : f_X7_raisea [zR 1, zR 2, zI 5, zR 3] h0_X7_raise_172 (zrk (zI 6) h1_X7_raise_172) = true := by decide +kernel
noncomputable def g_X7_raise_172 {d : Nat} : List zV → zH d → zP d → Bool := zsmy [(0, 0), (0, 1), (0, 3)] [zR 1, zR 2, zI 5, zR 3] h0_X7_raise_172 (zI 6) h1_X7_raise_172
theorem mg_X7_raise_172 {d : Nat} : zMet (d := d) X_X7_raise yX7_raise 2 g_X7_raise_172 := zMet_sm m_X7_raisea ev_X7_raise_172
noncomputable def h0_X7_raise_173 : zH 2 := (show zT 2 from ((zk_99_zs1_64_X7_raise_11, zk_99_zs1_64_X7_raise_12), (zk_99_zs1_64_X7_raise_12, (0, 0, 0))), (3, (0, 0)))
noncomputable def h1_X7_raise_173 : zH 2 := (show zT 2 from ((zk_99_zs1_64_X7_raise_11, zk_99_zs1_64_X7_raise_12), (zk_99_zs1_64_X7_raise_12, (0, 0, 0))), (3, (0, 0)))
theorem ev_X7_raise_173 : f_X7_raisea [zR 1, zR 2, zI 6, zR 3] h0_X7_raise_173 (zrk (zI 6) h1_X7_raise_173) = true := by decide +kernel
noncomputable def g_X7_raise_173 {d : Nat} : List zV → zH d → zP d → Bool := zsmy [(0, 0), (0, 1), (0, 3)] [zR 1, zR 2, zI 6, zR 3] h0_X7_raise_173 (zI 6) h1_X7_raise_173
theorem mg_X7_raise_173 {d : Nat} : zMet (d := d) X_X7_raise yX7_raise 2 g_X7_raise_173 := zMet_sm m_X7_raisea ev_X7_raise_173
noncomputable def g_X7_raise {d : Nat} : List zV → zH d → zP d → Bool := (zor2 g_X7_raise_0 (zor2 g_X7_raise_1 (zor2 g_X7_raise_2 (zor2 g_X7_raise_3 (zor2 g_X7_raise_4 (zor2 g_X7_raise_5 (zor2 g_X7_raise_6 (zor2 g_X7_raise_7 (zor2 g_X7_raise_8 (zor2 g_X7_raise_9 (zor2 g_X7_raise_10 (zor2 g_X7_raise_11 (zor2 g_X7_raise_12 (zor2 g_X7_raise_13 (zor2 g_X7_raise_14 (zor2 g_X7_raise_15 (zor2 g_X7_raise_16 (zor2 g_X7_raise_17 (zor2 g_X7_raise_18 (zor2 g_X7_raise_19 (zor2 g_X7_raise_20 (zor2 g_X7_raise_21 (zor2 g_X7_raise_22 (zor2 g_X7_raise_23 (zor2 g_X7_raise_24 (zor2 g_X7_raise_25 (zor2 g_X7_raise_26 (zor2 g_X7_raise_27 (zor2 g_X7_raise_28 (zor2 g_X7_raise_29 (zor2 g_X7_raise_30 (zor2 g_X7_raise_31 (zor2 g_X7_raise_32 (zor2 g_X7_raise_33 (zor2 g_X7_raise_34 (zor2 g_X7_raise_35 (zor2 g_X7_raise_36 (zor2 g_X7_raise_37 (zor2 g_X7_raise_38 (zor2 g_X7_raise_39 (zor2 g_X7_raise_40 (zor2 g_X7_raise_41 (zor2 g_X7_raise_42 (zor2 g_X7_raise_43 (zor2 g_X7_raise_44 (zor2 g_X7_raise_45 (zor2 g_X7_raise_46 (zor2 g_X7_raise_47 (zor2 g_X7_raise_48 (zor2 g_X7_raise_49 (zor2 g_X7_raise_50 (zor2 g_X7_raise_51 (zor2 g_X7_raise_52 (zor2 g_X7_raise_53 (zor2 g_X7_raise_54 (zor2 g_X7_raise_55 (zor2 g_X7_raise_56 (zor2 g_X7_raise_57 (zor2 g_X7_raise_58 (zor2 g_X7_raise_59 (zor2 g_X7_raise_60 (zor2 g_X7_raise_61 (zor2 g_X7_raise_62 (zor2 g_X7_raise_63 (zor2 g_X7_raise_64 (zor2 g_X7_raise_65 (zor2 g_X7_raise_66 (zor2 g_X7_raise_67 (zor2 g_X7_raise_68 (zor2 g_X7_raise_69 (zor2 g_X7_raise_70 (zor2 g_X7_raise_71 (zor2 g_X7_raise_72 (zor2 g_X7_raise_73 (zor2 g_X7_raise_74 (zor2 g_X7_raise_75 (zor2 g_X7_raise_76 (zor2 g_X7_raise_77 (zor2 g_X7_raise_78 (zor2 g_X7_raise_79 (zor2 g_X7_raise_80 (zor2 g_X7_raise_81 (zor2 g_X7_raise_82 (zor2 g_X7_raise_83 (zor2 g_X7_raise_84 (zor2 g_X7_raise_85 (zor2 g_X7_raise_86 (zor2 g_X7_raise_87 (zor2 g_X7_raise_88 (zor2 g_X7_raise_89 (zor2 g_X7_raise_90 (zor2 g_X7_raise_91 (zor2 g_X7_raise_92 (zor2 g_X7_raise_93 (zor2 g_X7_raise_94 (zor2 g_X7_raise_95 (zor2 g_X7_raise_96 (zor2 g_X7_raise_97 (zor2 g_X7_raise_98 (zor2 g_X7_raise_99 (zor2 g_X7_raise_100 (zor2 g_X7_raise_101 (zor2 g_X7_raise_102 (zor2 g_X7_raise_103 (zor2 g_X7_raise_104 (zor2 g_X7_raise_105 (zor2 g_X7_raise_106 (zor2 g_X7_raise_107 (zor2 g_X7_raise_108 (zor2 g_X7_raise_109 (zor2 g_X7_raise_110 (zor2 g_X7_raise_111 (zor2 g_X7_raise_112 (zor2 g_X7_raise_113 (zor2 g_X7_raise_114 (zor2 g_X7_raise_115 (zor2 g_X7_raise_116 (zor2 g_X7_raise_117 (zor2 g_X7_raise_118 (zor2 g_X7_raise_119 (zor2 g_X7_raise_120 (zor2 g_X7_raise_121 (zor2 g_X7_raise_122 (zor2 g_X7_raise_123 (zor2 g_X7_raise_124 (zor2 g_X7_raise_125 (zor2 g_X7_raise_126 (zor2 g_X7_raise_127 (zor2 g_X7_raise_128 (zor2 g_X7_raise_129 (zor2 g_X7_raise_130 (zor2 g_X7_raise_131 (zor2 g_X7_raise_132 (zor2 g_X7_raise_133 (zor2 g_X7_raise_134 (zor2 g_X7_raise_135 (zor2 g_X7_raise_136 (zor2 g_X7_raise_137 (zor2 g_X7_raise_138 (zor2 g_X7_raise_139 (zor2 g_X7_raise_140 (zor2 g_X7_raise_141 (zor2 g_X7_raise_142 (zor2 g_X7_raise_143 (zor2 g_X7_raise_144 (zor2 g_X7_raise_145 (zor2 g_X7_raise_146 (zor2 g_X7_raise_147 (zor2 g_X7_raise_148 (zor2 g_X7_raise_149 (zor2 g_X7_raise_150 (zor2 g_X7_raise_151 (zor2 g_X7_raise_152 (zor2 g_X7_raise_153 (zor2 g_X7_raise_154 (zor2 g_X7_raise_155 (zor2 g_X7_raise_156 (zor2 g_X7_raise_157 (zor2 g_X7_raise_158 (zor2 g_X7_raise_159 (zor2 g_X7_raise_160 (zor2 g_X7_raise_161 (zor2 g_X7_raise_162 (zor2 g_X7_raise_163 (zor2 g_X7_raise_164 (zor2 g_X7_raise_165 (zor2 g_X7_raise_166 (zor2 g_X7_raise_167 (zor2 g_X7_raise_168 (zor2 g_X7_raise_169 (zor2 g_X7_raise_170 (zor2 g_X7_raise_171 (zor2 g_X7_raise_172 (zor2 g_X7_raise_173 (fun _ _ _ => false)))))))))))))))))))))))))))))))))))))))))))))))))))))))))))))))))))))))))))))))))))))))))))))))))))))))))))))))))))))))))))))))))))))))))))))))))))))))))))))))))))))))))))))))
theorem mg_X7_raise {d : Nat} : zMet (d := d) X_X7_raise yX7_raise 2 g_X7_raise := (zMet_or mg_X7_raise_0 (zMet_or mg_X7_raise_1 (zMet_or mg_X7_raise_2 (zMet_or mg_X7_raise_3 (zMet_or mg_X7_raise_4 (zMet_or mg_X7_raise_5 (zMet_or mg_X7_raise_6 (zMet_or mg_X7_raise_7 (zMet_or mg_X7_raise_8 (zMet_or mg_X7_raise_9 (zMet_or mg_X7_raise_10 (zMet_or mg_X7_raise_11 (zMet_or mg_X7_raise_12 (zMet_or mg_X7_raise_13 (zMet_or mg_X7_raise_14 (zMet_or mg_X7_raise_15 (zMet_or mg_X7_raise_16 (zMet_or mg_X7_raise_17 (zMet_or mg_X7_raise_18 (zMet_or mg_X7_raise_19 (zMet_or mg_X7_raise_20 (zMet_or mg_X7_raise_21 (zMet_or mg_X7_raise_22 (zMet_or mg_X7_raise_23 (zMet_or mg_X7_raise_24 (zMet_or mg_X7_raise_25 (zMet_or mg_X7_raise_26 (zMet_or mg_X7_raise_27 (zMet_or mg_X7_raise_28 (zMet_or mg_X7_raise_29 (zMet_or mg_X7_raise_30 (zMet_or mg_X7_raise_31 (zMet_or mg_X7_raise_32 (zMet_or mg_X7_raise_33 (zMet_or mg_X7_raise_34 (zMet_or mg_X7_raise_35 (zMet_or mg_X7_raise_36 (zMet_or mg_X7_raise_37 (zMet_or mg_X7_raise_38 (zMet_or mg_X7_raise_39 (zMet_or mg_X7_raise_40 (zMet_or mg_X7_raise_41 (zMet_or mg_X7_raise_42 (zMet_or mg_X7_raise_43 (zMet_or mg_X7_raise_44 (zMet_or mg_X7_raise_45 (zMet_or mg_X7_raise_46 (zMet_or mg_X7_raise_47 (zMet_or mg_X7_raise_48 (zMet_or mg_X7_raise_49 (zMet_or mg_X7_raise_50 (zMet_or mg_X7_raise_51 (zMet_or mg_X7_raise_52 (zMet_or mg_X7_raise_53 (zMet_or mg_X7_raise_54 (zMet_or mg_X7_raise_55 (zMet_or mg_X7_raise_56 (zMet_or mg_X7_raise_57 (zMet_or mg_X7_raise_58 (zMet_or mg_X7_raise_59 (zMet_or mg_X7_raise_60 (zMet_or mg_X7_raise_61 (zMet_or mg_X7_raise_62 (zMet_or mg_X7_raise_63 (zMet_or mg_X7_raise_64 (zMet_or mg_X7_raise_65 (zMet_or mg_X7_raise_66 (zMet_or mg_X7_raise_67 (zMet_or mg_X7_raise_68 (zMet_or mg_X7_raise_69 (zMet_or mg_X7_raise_70 (zMet_or mg_X7_raise_71 (zMet_or mg_X7_raise_72 (zMet_or mg_X7_raise_73 (zMet_or mg_X7_raise_74 (zMet_or mg_X7_raise_75 (zMet_or mg_X7_raise_76 (zMet_or mg_X7_raise_77 (zMet_or mg_X7_raise_78 (zMet_or mg_X7_raise_79 (zMet_or mg_X7_raise_80 (zMet_or mg_X7_raise_81 (zMet_or mg_X7_raise_82 (zMet_or mg_X7_raise_83 (zMet_or mg_X7_raise_84 (zMet_or mg_X7_raise_85 (zMet_or mg_X7_raise_86 (zMet_or mg_X7_raise_87 (zMet_or mg_X7_raise_88 (zMet_or mg_X7_raise_89 (zMet_or mg_X7_raise_90 (zMet_or mg_X7_raise_91 (zMet_or mg_X7_raise_92 (zMet_or mg_X7_raise_93 (zMet_or mg_X7_raise_94 (zMet_or mg_X7_raise_95 (zMet_or mg_X7_raise_96 (zMet_or mg_X7_raise_97 (zMet_or mg_X7_raise_98 (zMet_or mg_X7_raise_99 (zMet_or mg_X7_raise_100 (zMet_or mg_X7_raise_101 (zMet_or mg_X7_raise_102 (zMet_or mg_X7_raise_103 (zMet_or mg_X7_raise_104 (zMet_or mg_X7_raise_105 (zMet_or mg_X7_raise_106 (zMet_or mg_X7_raise_107 (zMet_or mg_X7_raise_108 (zMet_or mg_X7_raise_109 (zMet_or mg_X7_raise_110 (zMet_or mg_X7_raise_111 (zMet_or mg_X7_raise_112 (zMet_or mg_X7_raise_113 (zMet_or mg_X7_raise_114 (zMet_or mg_X7_raise_115 (zMet_or mg_X7_raise_116 (zMet_or mg_X7_raise_117 (zMet_or mg_X7_raise_118 (zMet_or mg_X7_raise_119 (zMet_or mg_X7_raise_120 (zMet_or mg_X7_raise_121 (zMet_or mg_X7_raise_122 (zMet_or mg_X7_raise_123 (zMet_or mg_X7_raise_124 (zMet_or mg_X7_raise_125 (zMet_or mg_X7_raise_126 (zMet_or mg_X7_raise_127 (zMet_or mg_X7_raise_128 (zMet_or mg_X7_raise_129 (zMet_or mg_X7_raise_130 (zMet_or mg_X7_raise_131 (zMet_or mg_X7_raise_132 (zMet_or mg_X7_raise_133 (zMet_or mg_X7_raise_134 (zMet_or mg_X7_raise_135 (zMet_or mg_X7_raise_136 (zMet_or mg_X7_raise_137 (zMet_or mg_X7_raise_138 (zMet_or mg_X7_raise_139 (zMet_or mg_X7_raise_140 (zMet_or mg_X7_raise_141 (zMet_or mg_X7_raise_142 (zMet_or mg_X7_raise_143 (zMet_or mg_X7_raise_144 (zMet_or mg_X7_raise_145 (zMet_or mg_X7_raise_146 (zMet_or mg_X7_raise_147 (zMet_or mg_X7_raise_148 (zMet_or mg_X7_raise_149 (zMet_or mg_X7_raise_150 (zMet_or mg_X7_raise_151 (zMet_or mg_X7_raise_152 (zMet_or mg_X7_raise_153 (zMet_or mg_X7_raise_154 (zMet_or mg_X7_raise_155 (zMet_or mg_X7_raise_156 (zMet_or mg_X7_raise_157 (zMet_or mg_X7_raise_158 (zMet_or mg_X7_raise_159 (zMet_or mg_X7_raise_160 (zMet_or mg_X7_raise_161 (zMet_or mg_X7_raise_162 (zMet_or mg_X7_raise_163 (zMet_or mg_X7_raise_164 (zMet_or mg_X7_raise_165 (zMet_or mg_X7_raise_166 (zMet_or mg_X7_raise_167 (zMet_or mg_X7_raise_168 (zMet_or mg_X7_raise_169 (zMet_or mg_X7_raise_170 (zMet_or mg_X7_raise_171 (zMet_or mg_X7_raise_172 (zMet_or mg_X7_raise_173 zfalse))))))))))))))))))))))))))))))))))))))))))))))))))))))))))))))))))))))))))))))))))))))))))))))))))))))))))))))))))))))))))))))))))))))))))))))))))))))))))))))))))))))))))))))
end
section
/-! the class by summaries, by program -/
noncomputable def lX7_makePowersa_19 {d : Nat} (P : zP d) (r19 : zK d) (r9 : zK d) : zK d := (xild 3 (xpI 6 (xcmpS tleR rlS rhLe rlGt rhS (xald 0 (xgfR 23 9 (xild 2 (xaaT (xild 3 (xald 0 (xald 1 (xald 0 (xald 0 (xgfR 23 3 (xild 2 (xaaT (xgfR 20 2 (xild 3 (xald 1 (xcV 23 4 0 0 (zstr g_X7_raise) (xcV 23 3 0 0 (zstr f_X7_numberOf) (xasQ 0 (fun v => v) (xincR 3 1 r19))))))))))))))))))) (xincR 2 1 r9))))
set_option maxRecDepth 100000 in
set_option maxHeartbeats 4000000 in
theorem slX7_makePowersa_19 {d : Nat} [zGh] (P : zP d) (r19 : zK d) (r9 : zK d) (hr19 : zSimJ 1 X_X7_makePowers 3 P 19 r19) (hr9 : zSimJ 1 X_X7_makePowers 3 P 9 r9) : zSim X_X7_makePowers 3 P 19 (lX7_makePowersa_19 P r19 r9) := by
  unfold lX7_makePowersa_19
  refine sm_iload_n (pc := 19) (n := 3) dX7_makePowers_19 rfl ?_
  refine sm_bipush (pc := 20) dX7_makePowers_20 zc_b_6 ?_
  refine sm_icmpS_gt (pc := 22) (tgt := 59) dX7_makePowers_22 (by decide) ?_ ?_
  · skip
    refine sm_iincR (pc := 59) (n := 2) dX7_makePowers_59 zc_i_1 ?_
    refine sm_goto (pc := 62) (tgt := 9) dX7_makePowers_62 (by decide) ?_
    exact hr9.use
  · skip
    refine sm_aload_n (pc := 25) (n := 0) dX7_makePowers_25 rfl ?_
    refine gf_X7_55 (pc := 26) rfl dX7_makePowers_26 ?_
    refine sm_iload_n (pc := 29) (n := 2) dX7_makePowers_29 rfl ?_
    refine sm_aaloadT (pc := 30) dX7_makePowers_30 ?_
    refine sm_iload_n (pc := 31) (n := 3) dX7_makePowers_31 rfl ?_
    refine sm_aload_n (pc := 32) (n := 0) dX7_makePowers_32 rfl ?_
    refine sm_aload_n (pc := 33) (n := 1) dX7_makePowers_33 rfl ?_
    refine sm_aload_n (pc := 34) (n := 0) dX7_makePowers_34 rfl ?_
    refine sm_aload_n (pc := 35) (n := 0) dX7_makePowers_35 rfl ?_
    refine gf_X7_24 (pc := 36) rfl dX7_makePowers_36 ?_
    refine sm_iload_n (pc := 39) (n := 2) dX7_makePowers_39 rfl ?_
    refine sm_aaloadT (pc := 40) dX7_makePowers_40 ?_
    refine gf_X7_98 (pc := 41) rfl dX7_makePowers_41 ?_
    refine sm_iload_n (pc := 44) (n := 3) dX7_makePowers_44 rfl ?_
    refine sm_aload_n (pc := 45) (n := 1) dX7_makePowers_45 rfl ?_
    refine sm_cV (pc := 46) (ci := 7) (n := 4) (mc := 0) (ms := 0) rfl (zMet_str mg_X7_raise) (cr_X7_116 (X := X_X7_makePowers) (fr := 3) (frc := 2) (pc := 46) (mc := 0) (ms := 0) rfl (by decide) dX7_makePowers_46) ?_
    refine sm_cV (pc := 49) (ci := 7) (n := 3) (mc := 0) (ms := 0) rfl (zMet_str m_X7_numberOf) (cr_X7_74 (X := X_X7_makePowers) (fr := 3) (frc := 1) (pc := 49) (mc := 0) (ms := 0) rfl (by decide) dX7_makePowers_49) ?_
    refine sm_iastoreQ (pc := 52) dX7_makePowers_52 ?_
    refine sm_iincR (pc := 53) (n := 3) dX7_makePowers_53 zc_i_1 ?_
    refine sm_goto (pc := 56) (tgt := 19) dX7_makePowers_56 (by decide) ?_
    exact hr19.use
noncomputable def lX7_makePowersa_9 {d : Nat} (P : zP d) (r9 : zK d) : zK d := (xild 2 (xald 0 (xgfI 23 1 (xcmpS tgeR rlGe rhS rlS rhLt (xvret P) (xpI 1 (xist 3 (xloop (fun r19 => (lX7_makePowersa_19 P r19 r9)) 100000)))))))
set_option maxRecDepth 100000 in
set_option maxHeartbeats 4000000 in
theorem slX7_makePowersa_9 {d : Nat} [zGh] (P : zP d) (r9 : zK d) (hr9 : zSimJ 1 X_X7_makePowers 3 P 9 r9) : zSim X_X7_makePowers 3 P 9 (lX7_makePowersa_9 P r9) := by
  unfold lX7_makePowersa_9
  refine sm_iload_n (pc := 9) (n := 2) dX7_makePowers_9 rfl ?_
  refine sm_aload_n (pc := 10) (n := 0) dX7_makePowers_10 rfl ?_
  refine gf_X7_19 (pc := 11) rfl dX7_makePowers_11 ?_
  refine sm_icmpS_ge (pc := 14) (tgt := 65) dX7_makePowers_14 (by decide) ?_ ?_
  · skip
    exact sm_vreturn (pc := 65) dX7_makePowers_65 rfl
  · skip
    refine sm_iconst (pc := 17) dX7_makePowers_17 zc_i_1 ?_
    refine sm_istore_n (pc := 18) (n := 3) dX7_makePowers_18 rfl ?_
    exact (sm_loopJ (j := 1) (fun G1 hG1 r19 hr19 => @slX7_makePowersa_19 d G1 P r19 r9 hr19 (hr9.mv hG1 (by decide))) _).use
noncomputable def b_X7_makePowersa {d : Nat} (P : zP d) : zK d := (xald 0 (xgfI 23 0 (xnwa 0 (xast 1 (xpI 0 (xist 2 (xloop (fun r9 => (lX7_makePowersa_9 P r9)) 100000)))))))
set_option maxRecDepth 100000 in
set_option maxHeartbeats 4000000 in
theorem s_X7_makePowersa {d : Nat} [zGh] (P : zP d) : zSim X_X7_makePowers 3 P 0 (b_X7_makePowersa P) := by
  unfold b_X7_makePowersa
  refine sm_aload_n (pc := 0) (n := 0) dX7_makePowers_0 rfl ?_
  refine gf_X7_9 (pc := 1) rfl dX7_makePowers_1 ?_
  refine sm_newI (pc := 4) dX7_makePowers_4 wd_46 ?_
  refine sm_astore_n (pc := 6) (n := 1) dX7_makePowers_6 rfl ?_
  refine sm_iconst (pc := 7) dX7_makePowers_7 zc_i_0 ?_
  refine sm_istore_n (pc := 8) (n := 2) dX7_makePowers_8 rfl ?_
  exact (sm_loopJ (j := 1) (fun G1 hG1 r9 hr9 => @slX7_makePowersa_9 d G1 P r9 hr9) _).use
noncomputable def f_X7_makePowersa {d : Nat} : List zV → zH d → zP d → Bool := zfn 4 b_X7_makePowersa
theorem m_X7_makePowersa {d : Nat} : zMet (d := d) X_X7_makePowers yX7_makePowers 3 f_X7_makePowersa := zmet_mk (X := X_X7_makePowers) (by decide) rfl rfl s_X7_makePowersa

noncomputable def zk_99_zs1_65_X7_makePowers_0 : zT 2 := @Prod.mk (zT 1) (zT 1) ((23, 14, 0x800000000d800000000c800000000b0000000002800000000980000000088000000007800000000680000000050000000004000000000100000000010000000001), (3, 1, 3)) ((0, 7, 0), (5, 1, 5))
noncomputable def zk_99_zs1_65_X7_makePowers_1 : zT 1 := @Prod.mk (zT 0) (zT 0) (20, 16, 0x8000000110800000010f800000010e800000010d800000010c800000010b800000010a800000010980000001088000000107800000010680000001058000000104000000000680000001028000000101) (0, 1, 1)
noncomputable def h0_X7_makePowers_0 : zH 3 := (show zT 3 from (zk_99_zs1_65_X7_makePowers_0, (zk_99_zs1_65_X7_makePowers_1, zO1)), (6, (1, 6)))
noncomputable def h1_X7_makePowers_0 : zH 3 := (show zT 3 from (zk_99_zs1_65_X7_makePowers_0, (zk_99_zs1_65_X7_makePowers_1, ((0, 1, 1), (0, 0, 0)))), (7, (0, 0)))
theorem ev_X7_makePowers_0 : f_X7_makePowersa [zR 1] h0_X7_makePowers_0 (zrk (zU) h1_X7_makePowers_0) = true := by decide +kernel
noncomputable def g_X7_makePowers_0 {d : Nat} : List zV → zH d → zP d → Bool := zsmy [(0, 0), (1, 9), (2, 0), (1, 3), (4, 0), (5, 2)] [zR 1] h0_X7_makePowers_0 (zU) h1_X7_makePowers_0
theorem mg_X7_makePowers_0 {d : Nat} : zMet (d := d) X_X7_makePowers yX7_makePowers 3 g_X7_makePowers_0 := zMet_sm m_X7_makePowersa ev_X7_makePowers_0
noncomputable def zk_99_zs1_65_X7_makePowers_2 : zT 1 := @Prod.mk (zT 0) (zT 0) (23, 14, 0x800000000d800000000c800000000b0000000002800000000980000000088000000007800000000680000000050000000005000000000200000000020000000002) (3, 2, 0x40000000003)
noncomputable def zk_99_zs1_65_X7_makePowers_3 : zT 2 := @Prod.mk (zT 1) (zT 1) ((5, 2, 0x70000000006), (20, 16, 0x8000000150800000014f800000014e800000014d800000014c800000014b800000014a800000014980000001488000000147800000014680000001458000000144000000000880000001428000000141)) ((20, 16, 0x8000000190800000018f800000018e800000018d800000018c800000018b800000018a800000018980000001888000000187800000018680000001858000000184000000000980000001828000000181), (0, 1, 2))
noncomputable def h0_X7_makePowers_1 : zH 4 := (show zT 4 from (((zk_99_zs1_65_X7_makePowers_2, ((0, 7, 0), (0, 7, 0))), zk_99_zs1_65_X7_makePowers_3), ((((0, 2, 0x10000000001), (0, 0, 0)), zO1), zO2)), (9, (1, 6)))
noncomputable def h1_X7_makePowers_1 : zH 4 := (show zT 4 from (((zk_99_zs1_65_X7_makePowers_2, ((0, 7, 0x1000000000000000000010000000000000000000100000000000000000000), (0, 7, 0x1000000000100000000010000000001000000000100000000010000000000))), zk_99_zs1_65_X7_makePowers_3), ((((0, 2, 0x10000000001), (0, 2, 0x10000000001)), zO1), zO2)), (10, (0, 0)))
theorem ev_X7_makePowers_1 : f_X7_makePowersa [zR 1] h0_X7_makePowers_1 (zrk (zU) h1_X7_makePowers_1) = true := by decide +kernel
noncomputable def g_X7_makePowers_1 {d : Nat} : List zV → zH d → zP d → Bool := zsmy [(0, 0), (1, 9), (2, 0), (2, 1), (1, 3), (5, 0), (5, 1), (6, 2), (7, 2)] [zR 1] h0_X7_makePowers_1 (zU) h1_X7_makePowers_1
theorem mg_X7_makePowers_1 {d : Nat} : zMet (d := d) X_X7_makePowers yX7_makePowers 3 g_X7_makePowers_1 := zMet_sm m_X7_makePowersa ev_X7_makePowers_1
noncomputable def zk_99_zs1_65_X7_makePowers_4 : zT 1 := @Prod.mk (zT 0) (zT 0) (23, 14, 0x800000000d800000000c800000000b0000000002800000000980000000088000000007800000000680000000050000000006000000000600000000030000000003) (3, 3, 0x500000000040000000003)
noncomputable def zk_99_zs1_65_X7_makePowers_5 : zT 1 := @Prod.mk (zT 0) (zT 0) (20, 16, 0x8000000190800000018f800000018e800000018d800000018c800000018b800000018a800000018980000001888000000187800000018680000001858000000184000000000a80000001828000000181) (20, 16, 0x80000001d080000001cf80000001ce80000001cd80000001cc80000001cb80000001ca80000001c980000001c880000001c780000001c680000001c580000001c4000000000b80000001c280000001c1)
noncomputable def zk_99_zs1_65_X7_makePowers_6 : zT 2 := @Prod.mk (zT 1) (zT 1) ((20, 16, 0x8000000210800000020f800000020e800000020d800000020c800000020b800000020a800000020980000002088000000207800000020680000002058000000204000000000c80000002028000000201), (0, 1, 3)) ((0, 2, 0x10000000002), (0, 3, 0x100000000010000000001))
noncomputable def h0_X7_makePowers_2 : zH 4 := (show zT 4 from (((zk_99_zs1_65_X7_makePowers_4, ((0, 7, 0), (0, 7, 0))), (((0, 7, 0), (5, 3, 0x900000000080000000007)), zk_99_zs1_65_X7_makePowers_5)), (zk_99_zs1_65_X7_makePowers_6, zO2)), (12, (1, 6)))
noncomputable def h1_X7_makePowers_2 : zH 4 := (show zT 4 from (((zk_99_zs1_65_X7_makePowers_4, ((0, 7, 0x2000000000000000000000000000002000000000000000000000000000000), (0, 7, 0x2000000000100000000020000000001000000000200000000010000000000))), (((0, 7, 0x2000000000200000000020000000002000000000200000000020000000000), (5, 3, 0x900000000080000000007)), zk_99_zs1_65_X7_makePowers_5)), (zk_99_zs1_65_X7_makePowers_6, (((0, 3, 0x100000000010000000001), (0, 0, 0)), zO1))), (13, (0, 0)))
theorem ev_X7_makePowers_2 : f_X7_makePowersa [zR 1] h0_X7_makePowers_2 (zrk (zU) h1_X7_makePowers_2) = true := by decide +kernel
noncomputable def g_X7_makePowers_2 {d : Nat} : List zV → zH d → zP d → Bool := zsmy [(0, 0), (1, 9), (2, 0), (2, 1), (2, 2), (1, 3), (6, 0), (6, 1), (6, 2), (7, 2), (8, 2), (9, 2)] [zR 1] h0_X7_makePowers_2 (zU) h1_X7_makePowers_2
theorem mg_X7_makePowers_2 {d : Nat} : zMet (d := d) X_X7_makePowers yX7_makePowers 3 g_X7_makePowers_2 := zMet_sm m_X7_makePowersa ev_X7_makePowers_2
noncomputable def zk_99_zs1_65_X7_makePowers_7 : zT 1 := @Prod.mk (zT 0) (zT 0) (23, 14, 0x800000000d800000000c800000000b0000000002800000000980000000088000000007800000000680000000050000000008000000001800000000050000000004) (3, 5, 0x70000000006000000000500000000040000000003)
noncomputable def zk_99_zs1_65_X7_makePowers_8 : zT 3 := @Prod.mk (zT 2) (zT 2) (((20, 16, 0x8000000210800000020f800000020e800000020d800000020c800000020b800000020a800000020980000002088000000207800000020680000002058000000204000000000e80000002028000000201), (20, 16, 0x8000000250800000024f800000024e800000024d800000024c800000024b800000024a800000024980000002488000000247800000024680000002458000000244000000000f80000002428000000241)), ((20, 16, 0x8000000290800000028f800000028e800000028d800000028c800000028b800000028a800000028980000002888000000287800000028680000002858000000284000000001080000002828000000281), (20, 16, 0x80000002d080000002cf80000002ce80000002cd80000002cc80000002cb80000002ca80000002c980000002c880000002c780000002c680000002c580000002c4000000001180000002c280000002c1))) (((20, 16, 0x8000000310800000030f800000030e800000030d800000030c800000030b800000030a800000030980000003088000000307800000030680000003058000000304000000001280000003028000000301), (0, 1, 4)), ((0, 2, 0x10000000003), (0, 2, 0x20000000002)))
noncomputable def zk_99_zs1_65_X7_makePowers_9 : zT 1 := @Prod.mk (zT 0) (zT 0) (0, 3, 0x100000000010000000002) (0, 4, 0x1000000000100000000010000000001)
noncomputable def h0_X7_makePowers_3 : zH 5 := (show zT 5 from ((((zk_99_zs1_65_X7_makePowers_7, ((0, 7, 0), (0, 7, 0))), (((0, 7, 0), (0, 7, 0)), ((0, 7, 0), (5, 5, 0xd000000000c000000000b000000000a0000000009)))), zk_99_zs1_65_X7_makePowers_8), (((zk_99_zs1_65_X7_makePowers_9, zO1), zO2), zO3)), (18, (1, 6)))
noncomputable def h1_X7_makePowers_3 : zH 5 := (show zT 5 from ((((zk_99_zs1_65_X7_makePowers_7, ((0, 7, 0x2000000000000000000040000000000000000000200000000000000000000), (0, 7, 0x4000000000100000000010000000004000000000100000000010000000000))), (((0, 7, 0x4000000000200000000040000000002000000000400000000020000000000), (0, 7, 0x4000000000300000000040000000003000000000400000000030000000000)), ((0, 7, 0x4000000000400000000040000000004000000000400000000040000000000), (5, 5, 0xd000000000c000000000b000000000a0000000009)))), zk_99_zs1_65_X7_makePowers_8), (((zk_99_zs1_65_X7_makePowers_9, ((0, 4, 0x1000000000100000000010000000001), (0, 0, 0))), zO2), zO3)), (19, (0, 0)))
theorem ev_X7_makePowers_3 : f_X7_makePowersa [zR 1] h0_X7_makePowers_3 (zrk (zU) h1_X7_makePowers_3) = true := by decide +kernel
noncomputable def g_X7_makePowers_3 {d : Nat} : List zV → zH d → zP d → Bool := zsmy [(0, 0), (1, 9), (2, 0), (2, 1), (2, 2), (2, 3), (2, 4), (1, 3), (8, 0), (8, 1), (8, 2), (8, 3), (8, 4), (9, 2), (10, 2), (11, 2), (12, 2), (13, 2)] [zR 1] h0_X7_makePowers_3 (zU) h1_X7_makePowers_3
theorem mg_X7_makePowers_3 {d : Nat} : zMet (d := d) X_X7_makePowers yX7_makePowers 3 g_X7_makePowers_3 := zMet_sm m_X7_makePowersa ev_X7_makePowers_3
noncomputable def zk_99_zs1_65_X7_makePowers_10 : zT 1 := @Prod.mk (zT 0) (zT 0) (23, 14, 0x800000000d800000000c800000000b000000000280000000098000000008800000000780000000068000000005000000000a000000007800000000070000000005) (3, 7, 0x9000000000800000000070000000006000000000500000000040000000003)
noncomputable def zk_99_zs1_65_X7_makePowers_11 : zC := (5, 7, 0x110000000010000000000f000000000e000000000d000000000c000000000b)
noncomputable def zk_99_zs1_65_X7_makePowers_12 : zT 1 := @Prod.mk (zT 0) (zT 0) (20, 16, 0x8000000290800000028f800000028e800000028d800000028c800000028b800000028a800000028980000002888000000287800000028680000002858000000284000000001280000002828000000281) (20, 16, 0x80000002d080000002cf80000002ce80000002cd80000002cc80000002cb80000002ca80000002c980000002c880000002c780000002c680000002c580000002c4000000001380000002c280000002c1)
noncomputable def zk_99_zs1_65_X7_makePowers_13 : zT 2 := @Prod.mk (zT 1) (zT 1) ((20, 16, 0x8000000310800000030f800000030e800000030d800000030c800000030b800000030a800000030980000003088000000307800000030680000003058000000304000000001480000003028000000301), (20, 16, 0x8000000350800000034f800000034e800000034d800000034c800000034b800000034a800000034980000003488000000347800000034680000003458000000344000000001580000003428000000341)) ((20, 16, 0x8000000390800000038f800000038e800000038d800000038c800000038b800000038a800000038980000003888000000387800000038680000003858000000384000000001680000003828000000381), (20, 16, 0x80000003d080000003cf80000003ce80000003cd80000003cc80000003cb80000003ca80000003c980000003c880000003c780000003c680000003c580000003c4000000001780000003c280000003c1))
noncomputable def zk_99_zs1_65_X7_makePowers_14 : zT 3 := @Prod.mk (zT 2) (zT 2) (((20, 16, 0x8000000410800000040f800000040e800000040d800000040c800000040b800000040a800000040980000004088000000407800000040680000004058000000404000000001880000004028000000401), (0, 1, 5)), ((0, 2, 0x10000000004), (0, 2, 0x20000000003))) (((0, 3, 0x100000000010000000003), (0, 3, 0x100000000020000000002)), ((0, 4, 0x1000000000100000000010000000002), (0, 5, 0x10000000001000000000100000000010000000001)))
noncomputable def h0_X7_makePowers_4 : zH 5 := (show zT 5 from ((((zk_99_zs1_65_X7_makePowers_10, ((0, 7, 0), (0, 7, 0))), (((0, 7, 0), (0, 7, 0)), ((0, 7, 0), (0, 7, 0)))), ((((0, 7, 0), zk_99_zs1_65_X7_makePowers_11), zk_99_zs1_65_X7_makePowers_12), zk_99_zs1_65_X7_makePowers_13)), (zk_99_zs1_65_X7_makePowers_14, zO3)), (24, (1, 6)))
noncomputable def h1_X7_makePowers_4 : zH 5 := (show zT 5 from ((((zk_99_zs1_65_X7_makePowers_10, ((0, 7, 0x600000000000000000000000000000000000000000000000000), (0, 7, 0x4000000000100000000060000000001000000000400000000010000000000))), (((0, 7, 0x6000000000200000000030000000005000000000300000000020000000000), (0, 7, 0x6000000000300000000030000000006000000000300000000030000000000)), ((0, 7, 0x6000000000400000000060000000004000000000600000000040000000000), (0, 7, 0x6000000000500000000060000000005000000000600000000050000000000)))), ((((0, 7, 0x6000000000600000000060000000006000000000600000000060000000000), zk_99_zs1_65_X7_makePowers_11), zk_99_zs1_65_X7_makePowers_12), zk_99_zs1_65_X7_makePowers_13)), (zk_99_zs1_65_X7_makePowers_14, ((((0, 5, 0x10000000001000000000100000000010000000001), (0, 0, 0)), zO1), zO2))), (25, (0, 0)))
theorem ev_X7_makePowers_4 : f_X7_makePowersa [zR 1] h0_X7_makePowers_4 (zrk (zU) h1_X7_makePowers_4) = true := by decide +kernel
noncomputable def g_X7_makePowers_4 {d : Nat} : List zV → zH d → zP d → Bool := zsmy [(0, 0), (1, 9), (2, 0), (2, 1), (2, 2), (2, 3), (2, 4), (2, 5), (2, 6), (1, 3), (10, 0), (10, 1), (10, 2), (10, 3), (10, 4), (10, 5), (10, 6), (11, 2), (12, 2), (13, 2), (14, 2), (15, 2), (16, 2), (17, 2)] [zR 1] h0_X7_makePowers_4 (zU) h1_X7_makePowers_4
theorem mg_X7_makePowers_4 {d : Nat} : zMet (d := d) X_X7_makePowers yX7_makePowers 3 g_X7_makePowers_4 := zMet_sm m_X7_makePowersa ev_X7_makePowers_4
noncomputable def zk_99_zs1_65_X7_makePowers_15 : zT 1 := @Prod.mk (zT 0) (zT 0) (23, 14, 0x800000000d800000000c800000000b000000000280000000098000000008800000000780000000068000000005000000000e00000002d0000000000b0000000006) (3, 11, 0xd000000000c000000000b000000000a0000000009000000000800000000070000000006000000000500000000040000000003)
noncomputable def zk_99_zs1_65_X7_makePowers_16 : zC := (5, 11, 0x19000000001800000000170000000016000000001500000000140000000013000000001200000000110000000010000000000f)
noncomputable def zk_99_zs1_65_X7_makePowers_17 : zT 1 := @Prod.mk (zT 0) (zT 0) (20, 16, 0x8000000390800000038f800000038e800000038d800000038c800000038b800000038a800000038980000003888000000387800000038680000003858000000384000000001a80000003828000000381) (20, 16, 0x80000003d080000003cf80000003ce80000003cd80000003cc80000003cb80000003ca80000003c980000003c880000003c780000003c680000003c580000003c4000000001b80000003c280000003c1)
noncomputable def zk_99_zs1_65_X7_makePowers_18 : zT 4 := @Prod.mk (zT 3) (zT 3) ((((20, 16, 0x8000000410800000040f800000040e800000040d800000040c800000040b800000040a800000040980000004088000000407800000040680000004058000000404000000001c80000004028000000401), (20, 16, 0x8000000450800000044f800000044e800000044d800000044c800000044b800000044a800000044980000004488000000447800000044680000004458000000444000000001d80000004428000000441)), ((20, 16, 0x8000000490800000048f800000048e800000048d800000048c800000048b800000048a800000048980000004888000000487800000048680000004858000000484000000001e80000004828000000481), (20, 16, 0x80000004d080000004cf80000004ce80000004cd80000004cc80000004cb80000004ca80000004c980000004c880000004c780000004c680000004c580000004c4000000001f80000004c280000004c1))), (((20, 16, 0x8000000510800000050f800000050e800000050d800000050c800000050b800000050a800000050980000005088000000507800000050680000005058000000504000000002080000005028000000501), (20, 16, 0x8000000550800000054f800000054e800000054d800000054c800000054b800000054a800000054980000005488000000547800000054680000005458000000544000000002180000005428000000541)), ((20, 16, 0x8000000590800000058f800000058e800000058d800000058c800000058b800000058a800000058980000005888000000587800000058680000005858000000584000000002280000005828000000581), (20, 16, 0x80000005d080000005cf80000005ce80000005cd80000005cc80000005cb80000005ca80000005c980000005c880000005c780000005c680000005c580000005c4000000002380000005c280000005c1)))) ((((20, 16, 0x8000000610800000060f800000060e800000060d800000060c800000060b800000060a800000060980000006088000000607800000060680000006058000000604000000002480000006028000000601), (0, 1, 6)), ((0, 2, 0x10000000005), (0, 2, 0x20000000004))), (((0, 3, 0x100000000010000000004), (0, 2, 0x30000000003)), ((0, 3, 0x100000000020000000003), (0, 4, 0x1000000000100000000010000000003))))
noncomputable def zk_99_zs1_65_X7_makePowers_19 : zC := (0, 6, 0x100000000010000000001000000000100000000010000000001)
noncomputable def zk_99_zs1_65_X7_makePowers_20 : zT 2 := @Prod.mk (zT 1) (zT 1) ((0, 3, 0x200000000020000000002), (0, 4, 0x1000000000100000000020000000002)) ((0, 5, 0x10000000001000000000100000000010000000002), zk_99_zs1_65_X7_makePowers_19)
noncomputable def h0_X7_makePowers_5 : zH 6 := (show zT 6 from (((((zk_99_zs1_65_X7_makePowers_15, ((0, 7, 0), (0, 7, 0))), (((0, 7, 0), (0, 7, 0)), ((0, 7, 0), (0, 7, 0)))), ((((0, 7, 0), (0, 7, 0)), ((0, 7, 0), (0, 7, 0))), (((0, 7, 0), zk_99_zs1_65_X7_makePowers_16), zk_99_zs1_65_X7_makePowers_17))), zk_99_zs1_65_X7_makePowers_18), (((zk_99_zs1_65_X7_makePowers_20, zO2), zO3), zO4)), (36, (1, 6)))
noncomputable def h1_X7_makePowers_5 : zH 6 := (show zT 6 from (((((zk_99_zs1_65_X7_makePowers_15, ((0, 7, 0xa000000000000000000040000000007000000000400000000000000000000), (0, 7, 0x1000000000a00000000010000000001000000000100000000010000000000))), (((0, 7, 0x80000000002000000000a0000000002000000000800000000020000000000), (0, 7, 0x80000000003000000000a0000000003000000000800000000030000000000)), ((0, 7, 0xa00000000040000000004000000000a000000000400000000040000000000), (0, 7, 0xa000000000500000000060000000009000000000600000000050000000000)))), ((((0, 7, 0xa00000000060000000006000000000a000000000600000000060000000000), (0, 7, 0xa0000000007000000000a0000000007000000000a00000000070000000000)), ((0, 7, 0xa0000000008000000000a0000000008000000000a00000000080000000000), (0, 7, 0xa0000000009000000000a0000000009000000000a00000000090000000000))), (((0, 7, 0xa000000000a000000000a000000000a000000000a000000000a0000000000), zk_99_zs1_65_X7_makePowers_16), zk_99_zs1_65_X7_makePowers_17))), zk_99_zs1_65_X7_makePowers_18), (((zk_99_zs1_65_X7_makePowers_20, ((zk_99_zs1_65_X7_makePowers_19, (0, 0, 0)), zO1)), zO3), zO4)), (37, (0, 0)))
theorem ev_X7_makePowers_5 : f_X7_makePowersa [zR 1] h0_X7_makePowers_5 (zrk (zU) h1_X7_makePowers_5) = true := by decide +kernel
noncomputable def g_X7_makePowers_5 {d : Nat} : List zV → zH d → zP d → Bool := zsmy [(0, 0), (1, 9), (2, 0), (2, 1), (2, 2), (2, 3), (2, 4), (2, 5), (2, 6), (2, 7), (2, 8), (2, 9), (2, 10), (1, 3), (14, 0), (14, 1), (14, 2), (14, 3), (14, 4), (14, 5), (14, 6), (14, 7), (14, 8), (14, 9), (14, 10), (15, 2), (16, 2), (17, 2), (18, 2), (19, 2), (20, 2), (21, 2), (22, 2), (23, 2), (24, 2), (25, 2)] [zR 1] h0_X7_makePowers_5 (zU) h1_X7_makePowers_5
theorem mg_X7_makePowers_5 {d : Nat} : zMet (d := d) X_X7_makePowers yX7_makePowers 3 g_X7_makePowers_5 := zMet_sm m_X7_makePowersa ev_X7_makePowers_5
noncomputable def g_X7_makePowers {d : Nat} : List zV → zH d → zP d → Bool := (zor2 g_X7_makePowers_0 (zor2 g_X7_makePowers_1 (zor2 g_X7_makePowers_2 (zor2 g_X7_makePowers_3 (zor2 g_X7_makePowers_4 (zor2 g_X7_makePowers_5 (fun _ _ _ => false)))))))
theorem mg_X7_makePowers {d : Nat} : zMet (d := d) X_X7_makePowers yX7_makePowers 3 g_X7_makePowers := (zMet_or mg_X7_makePowers_0 (zMet_or mg_X7_makePowers_1 (zMet_or mg_X7_makePowers_2 (zMet_or mg_X7_makePowers_3 (zMet_or mg_X7_makePowers_4 (zMet_or mg_X7_makePowers_5 zfalse))))))
end
