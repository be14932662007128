/-! the reference by summaries, by program -/
noncomputable def lX9_movesa_28 {d : Nat} (P : zP d) (r28 : zK d) (r5 : zK d) : zK d := (xild 6 (xild 5 (xcmpS tgeR rlGe rhS rlS rhLt (xild 3 (xild 5 (xbin zaddR (xist 3 (xincR 4 1 r5))))) (xald 0 (xgfR 25 33 (xild 3 (xild 6 (xbin zaddR (xild 3 (xild 6 (xild 2 (xbin zaddR (xild 5 (xbinN zremR (xbin zaddR (xasQ 0 (fun v => v) (xincR 6 1 r28)))))))))))))))))
set_option maxRecDepth 100000 in
set_option maxHeartbeats 4000000 in
theorem slX9_movesa_28 {d : Nat} [zGh] (P : zP d) (r28 : zK d) (r5 : zK d) (hr28 : zSimJ 1 X_X9_moves 2 P 28 r28) (hr5 : zSimJ 1 X_X9_moves 2 P 5 r5) : zSim X_X9_moves 2 P 28 (lX9_movesa_28 P r28 r5) := by
  unfold lX9_movesa_28
  refine sm_iload (pc := 28) (n := 6) dX9_moves_28 ?_
  refine sm_iload (pc := 30) (n := 5) dX9_moves_30 ?_
  refine sm_icmpS_ge (pc := 32) (tgt := 59) dX9_moves_32 (by decide) ?_ ?_
  · skip
    refine sm_iload_n (pc := 59) (n := 3) dX9_moves_59 rfl ?_
    refine sm_iload (pc := 60) (n := 5) dX9_moves_60 ?_
    refine sm_iaddR (pc := 62) dX9_moves_62 ?_
    refine sm_istore_n (pc := 63) (n := 3) dX9_moves_63 rfl ?_
    refine sm_iincR (pc := 64) (n := 4) dX9_moves_64 zc_i_1 ?_
    refine sm_goto (pc := 67) (tgt := 5) dX9_moves_67 (by decide) ?_
    exact hr5.use
  · skip
    refine sm_aload_n (pc := 35) (n := 0) dX9_moves_35 rfl ?_
    refine gf_X9_84 (pc := 36) rfl dX9_moves_36 ?_
    refine sm_iload_n (pc := 39) (n := 3) dX9_moves_39 rfl ?_
    refine sm_iload (pc := 40) (n := 6) dX9_moves_40 ?_
    refine sm_iaddR (pc := 42) dX9_moves_42 ?_
    refine sm_iload_n (pc := 43) (n := 3) dX9_moves_43 rfl ?_
    refine sm_iload (pc := 44) (n := 6) dX9_moves_44 ?_
    refine sm_iload_n (pc := 46) (n := 2) dX9_moves_46 rfl ?_
    refine sm_iaddR (pc := 47) dX9_moves_47 ?_
    refine sm_iload (pc := 48) (n := 5) dX9_moves_48 ?_
    refine sm_iremR (pc := 50) dX9_moves_50 ?_
    refine sm_iaddR (pc := 51) dX9_moves_51 ?_
    refine sm_iastoreQ (pc := 52) dX9_moves_52 ?_
    refine sm_iincR (pc := 53) (n := 6) dX9_moves_53 zc_i_1 ?_
    refine sm_goto (pc := 56) (tgt := 28) dX9_moves_56 (by decide) ?_
    exact hr28.use
noncomputable def lX9_movesa_5 {d : Nat} (P : zP d) (r5 : zK d) : zK d := (xild 4 (xald 0 (xgfR 25 4 (xild 1 (xalQ 0 (xcmpS tgeR rlGe rhS rlS rhLt (xvret P) (xald 0 (xild 1 (xild 4 (xcV 25 3 0 0 (zstr f_X9_partOf) (xist 5 (xpI 0 (xist 6 (xloop (fun r28 => (lX9_movesa_28 P r28 r5)) 100000))))))))))))))
set_option maxRecDepth 100000 in
set_option maxHeartbeats 4000000 in
theorem slX9_movesa_5 {d : Nat} [zGh] (P : zP d) (r5 : zK d) (hr5 : zSimJ 1 X_X9_moves 2 P 5 r5) : zSim X_X9_moves 2 P 5 (lX9_movesa_5 P r5) := by
  unfold lX9_movesa_5
  refine sm_iload (pc := 5) (n := 4) dX9_moves_5 ?_
  refine sm_aload_n (pc := 7) (n := 0) dX9_moves_7 rfl ?_
  refine gf_X9_13 (pc := 8) rfl dX9_moves_8 ?_
  refine sm_iload_n (pc := 11) (n := 1) dX9_moves_11 rfl ?_
  refine sm_ialoadQ (pc := 12) dX9_moves_12 ?_
  refine sm_icmpS_ge (pc := 13) (tgt := 70) dX9_moves_13 (by decide) ?_ ?_
  · skip
    exact sm_vreturn (pc := 70) dX9_moves_70 rfl
  · skip
    refine sm_aload_n (pc := 16) (n := 0) dX9_moves_16 rfl ?_
    refine sm_iload_n (pc := 17) (n := 1) dX9_moves_17 rfl ?_
    refine sm_iload (pc := 18) (n := 4) dX9_moves_18 ?_
    refine sm_cV (pc := 20) (ci := 9) (n := 3) (mc := 0) (ms := 0) rfl (zMet_str m_X9_partOf) (cr_X9_175 (X := X_X9_moves) (fr := 2) (frc := 1) (pc := 20) (mc := 0) (ms := 0) rfl (by decide) dX9_moves_20) ?_
    refine sm_istore (pc := 23) (n := 5) dX9_moves_23 ?_
    refine sm_iconst (pc := 25) dX9_moves_25 zc_i_0 ?_
    refine sm_istore (pc := 26) (n := 6) dX9_moves_26 ?_
    exact (sm_loopJ (j := 1) (fun G1 hG1 r28 hr28 => @slX9_movesa_28 d G1 P r28 r5 hr28 (hr5.mv hG1 (by decide))) _).use
noncomputable def b_X9_movesa {d : Nat} (P : zP d) : zK d := (xpI 1 (xist 3 (xpI 0 (xist 4 (xloop (fun r5 => (lX9_movesa_5 P r5)) 100000)))))
set_option maxRecDepth 100000 in
set_option maxHeartbeats 4000000 in
theorem s_X9_movesa {d : Nat} [zGh] (P : zP d) : zSim X_X9_moves 2 P 0 (b_X9_movesa P) := by
  unfold b_X9_movesa
  refine sm_iconst (pc := 0) dX9_moves_0 zc_i_1 ?_
  refine sm_istore_n (pc := 1) (n := 3) dX9_moves_1 rfl ?_
  refine sm_iconst (pc := 2) dX9_moves_2 zc_i_0 ?_
  refine sm_istore (pc := 3) (n := 4) dX9_moves_3 ?_
  exact (sm_loopJ (j := 1) (fun G1 hG1 r5 hr5 => @slX9_movesa_5 d G1 P r5 hr5) _).use
noncomputable def f_X9_movesa {d : Nat} : List zV → zH d → zP d → Bool := zfn 7 b_X9_movesa
theorem m_X9_movesa {d : Nat} : zMet (d := d) X_X9_moves yX9_moves 2 f_X9_movesa := zmet_mk (X := X_X9_moves) (by decide) rfl rfl s_X9_movesa

noncomputable def h0_X9_moves_0 : zH 2 := (show zT 2 from (((25, 63, bg_205), (0, 7, 0x100000000010000000001000000000100000000010000000001000000000100000000)), ((0, 66, bg_1), (0, 11, bg_8))), (4, (0, 0)))
noncomputable def h1_X9_moves_0 : zH 2 := (show zT 2 from (((25, 63, bg_205), (0, 7, 0x100000000010000000001000000000100000000010000000000000000010100000000)), ((0, 66, bg_1), (0, 11, bg_8))), (4, (0, 0)))
theorem ev_X9_moves_0 : f_X9_movesa [zR 1, zI 0, zI 1] h0_X9_moves_0 (zrk (zU) h1_X9_moves_0) = true := by decide +kernel
noncomputable def g_X9_moves_0 {d : Nat} : List zV → zH d → zP d → Bool := zsmy [(0, 0), (1, 33), (1, 3), (1, 4)] [zR 1, zI 0, zI 1] h0_X9_moves_0 (zU) h1_X9_moves_0
theorem mg_X9_moves_0 {d : Nat} : zMet (d := d) X_X9_moves yX9_moves 2 g_X9_moves_0 := zMet_sm m_X9_movesa ev_X9_moves_0
noncomputable def h0_X9_moves_1 : zH 2 := (show zT 2 from (((25, 63, bg_205), (0, 7, 0x100000000010000000001000000000100000000010000000001000000000100000000)), ((0, 66, bg_2), (0, 11, bg_9))), (4, (0, 0)))
noncomputable def h1_X9_moves_1 : zH 2 := (show zT 2 from (((25, 63, bg_205), (0, 7, 0x100000000010000000001000000000100000000000000000200000000010100000000)), ((0, 66, bg_2), (0, 11, bg_9))), (4, (0, 0)))
theorem ev_X9_moves_1 : f_X9_movesa [zR 1, zI 1, zI 1] h0_X9_moves_1 (zrk (zU) h1_X9_moves_1) = true := by decide +kernel
noncomputable def g_X9_moves_1 {d : Nat} : List zV → zH d → zP d → Bool := zsmy [(0, 0), (1, 33), (1, 3), (1, 4)] [zR 1, zI 1, zI 1] h0_X9_moves_1 (zU) h1_X9_moves_1
theorem mg_X9_moves_1 {d : Nat} : zMet (d := d) X_X9_moves yX9_moves 2 g_X9_moves_1 := zMet_sm m_X9_movesa ev_X9_moves_1
noncomputable def h0_X9_moves_2 : zH 2 := (show zT 2 from (((25, 63, bg_205), (0, 7, 0x100000000010000000001000000000100000000010000000001000000000100000000)), ((0, 66, bg_2), (0, 11, bg_9))), (4, (0, 0)))
noncomputable def h1_X9_moves_2 : zH 2 := (show zT 2 from (((25, 63, bg_205), (0, 7, 0x100000000010000000001000000000100000000000000000100000000020100000000)), ((0, 66, bg_2), (0, 11, bg_9))), (4, (0, 0)))
theorem ev_X9_moves_2 : f_X9_movesa [zR 1, zI 0, zI 1] h0_X9_moves_2 (zrk (zU) h1_X9_moves_2) = true := by decide +kernel
noncomputable def g_X9_moves_2 {d : Nat} : List zV → zH d → zP d → Bool := zsmy [(0, 0), (1, 33), (1, 3), (1, 4)] [zR 1, zI 0, zI 1] h0_X9_moves_2 (zU) h1_X9_moves_2
theorem mg_X9_moves_2 {d : Nat} : zMet (d := d) X_X9_moves yX9_moves 2 g_X9_moves_2 := zMet_sm m_X9_movesa ev_X9_moves_2
noncomputable def h0_X9_moves_3 : zH 2 := (show zT 2 from (((25, 63, bg_205), (0, 7, 0x100000000010000000001000000000100000000010000000001000000000100000000)), ((0, 66, bg_2), (0, 11, bg_9))), (4, (0, 0)))
noncomputable def h1_X9_moves_3 : zH 2 := (show zT 2 from (((25, 63, bg_205), (0, 7, 0x100000000010000000001000000000100000000000000000200000000010100000000)), ((0, 66, bg_2), (0, 11, bg_9))), (4, (0, 0)))
theorem ev_X9_moves_3 : f_X9_movesa [zR 1, zI 0, zI 2] h0_X9_moves_3 (zrk (zU) h1_X9_moves_3) = true := by decide +kernel
noncomputable def g_X9_moves_3 {d : Nat} : List zV → zH d → zP d → Bool := zsmy [(0, 0), (1, 33), (1, 3), (1, 4)] [zR 1, zI 0, zI 2] h0_X9_moves_3 (zU) h1_X9_moves_3
theorem mg_X9_moves_3 {d : Nat} : zMet (d := d) X_X9_moves yX9_moves 2 g_X9_moves_3 := zMet_sm m_X9_movesa ev_X9_moves_3
noncomputable def h0_X9_moves_4 : zH 2 := (show zT 2 from (((25, 63, bg_205), (0, 7, 0x100000000010000000001000000000100000000010000000001000000000100000000)), ((0, 66, bg_3), (0, 11, bg_10))), (4, (0, 0)))
noncomputable def h1_X9_moves_4 : zH 2 := (show zT 2 from (((25, 63, bg_205), (0, 7, 0x100000000010000000001000000000000000001000000000300000000020100000000)), ((0, 66, bg_3), (0, 11, bg_10))), (4, (0, 0)))
theorem ev_X9_moves_4 : f_X9_movesa [zR 1, zI 0, zI 1] h0_X9_moves_4 (zrk (zU) h1_X9_moves_4) = true := by decide +kernel
noncomputable def g_X9_moves_4 {d : Nat} : List zV → zH d → zP d → Bool := zsmy [(0, 0), (1, 33), (1, 3), (1, 4)] [zR 1, zI 0, zI 1] h0_X9_moves_4 (zU) h1_X9_moves_4
theorem mg_X9_moves_4 {d : Nat} : zMet (d := d) X_X9_moves yX9_moves 2 g_X9_moves_4 := zMet_sm m_X9_movesa ev_X9_moves_4
noncomputable def h0_X9_moves_5 : zH 2 := (show zT 2 from (((25, 63, bg_205), (0, 7, 0x100000000010000000001000000000100000000010000000001000000000100000000)), ((0, 66, bg_3), (0, 11, bg_10))), (4, (0, 0)))
noncomputable def h1_X9_moves_5 : zH 2 := (show zT 2 from (((25, 63, bg_205), (0, 7, 0x100000000010000000001000000000000000003000000000200000000010100000000)), ((0, 66, bg_3), (0, 11, bg_10))), (4, (0, 0)))
theorem ev_X9_moves_5 : f_X9_movesa [zR 1, zI 0, zI 3] h0_X9_moves_5 (zrk (zU) h1_X9_moves_5) = true := by decide +kernel
noncomputable def g_X9_moves_5 {d : Nat} : List zV → zH d → zP d → Bool := zsmy [(0, 0), (1, 33), (1, 3), (1, 4)] [zR 1, zI 0, zI 3] h0_X9_moves_5 (zU) h1_X9_moves_5
theorem mg_X9_moves_5 {d : Nat} : zMet (d := d) X_X9_moves yX9_moves 2 g_X9_moves_5 := zMet_sm m_X9_movesa ev_X9_moves_5
noncomputable def h0_X9_moves_6 : zH 2 := (show zT 2 from (((25, 63, bg_205), (0, 7, 0x100000000010000000001000000000100000000010000000001000000000100000000)), ((0, 66, bg_3), (0, 11, bg_10))), (4, (0, 0)))
noncomputable def h1_X9_moves_6 : zH 2 := (show zT 2 from (((25, 63, bg_205), (0, 7, 0x100000000010000000001000000000000000003000000000200000000010100000000)), ((0, 66, bg_3), (0, 11, bg_10))), (4, (0, 0)))
theorem ev_X9_moves_6 : f_X9_movesa [zR 1, zI 2, zI 1] h0_X9_moves_6 (zrk (zU) h1_X9_moves_6) = true := by decide +kernel
noncomputable def g_X9_moves_6 {d : Nat} : List zV → zH d → zP d → Bool := zsmy [(0, 0), (1, 33), (1, 3), (1, 4)] [zR 1, zI 2, zI 1] h0_X9_moves_6 (zU) h1_X9_moves_6
theorem mg_X9_moves_6 {d : Nat} : zMet (d := d) X_X9_moves yX9_moves 2 g_X9_moves_6 := zMet_sm m_X9_movesa ev_X9_moves_6
noncomputable def h0_X9_moves_7 : zH 2 := (show zT 2 from (((25, 63, bg_205), (0, 7, 0x100000000010000000001000000000100000000010000000001000000000100000000)), ((0, 66, bg_3), (0, 11, bg_10))), (4, (0, 0)))
noncomputable def h1_X9_moves_7 : zH 2 := (show zT 2 from (((25, 63, bg_205), (0, 7, 0x100000000010000000001000000000000000003000000000100000000020100000000)), ((0, 66, bg_3), (0, 11, bg_10))), (4, (0, 0)))
theorem ev_X9_moves_7 : f_X9_movesa [zR 1, zI 1, zI 1] h0_X9_moves_7 (zrk (zU) h1_X9_moves_7) = true := by decide +kernel
noncomputable def g_X9_moves_7 {d : Nat} : List zV → zH d → zP d → Bool := zsmy [(0, 0), (1, 33), (1, 3), (1, 4)] [zR 1, zI 1, zI 1] h0_X9_moves_7 (zU) h1_X9_moves_7
theorem mg_X9_moves_7 {d : Nat} : zMet (d := d) X_X9_moves yX9_moves 2 g_X9_moves_7 := zMet_sm m_X9_movesa ev_X9_moves_7
noncomputable def h0_X9_moves_8 : zH 2 := (show zT 2 from (((25, 63, bg_205), (0, 7, 0x100000000010000000001000000000100000000010000000001000000000100000000)), ((0, 66, bg_3), (0, 11, bg_10))), (4, (0, 0)))
noncomputable def h1_X9_moves_8 : zH 2 := (show zT 2 from (((25, 63, bg_205), (0, 7, 0x100000000010000000001000000000000000003000000000200000000010100000000)), ((0, 66, bg_3), (0, 11, bg_10))), (4, (0, 0)))
theorem ev_X9_moves_8 : f_X9_movesa [zR 1, zI 1, zI 2] h0_X9_moves_8 (zrk (zU) h1_X9_moves_8) = true := by decide +kernel
noncomputable def g_X9_moves_8 {d : Nat} : List zV → zH d → zP d → Bool := zsmy [(0, 0), (1, 33), (1, 3), (1, 4)] [zR 1, zI 1, zI 2] h0_X9_moves_8 (zU) h1_X9_moves_8
theorem mg_X9_moves_8 {d : Nat} : zMet (d := d) X_X9_moves yX9_moves 2 g_X9_moves_8 := zMet_sm m_X9_movesa ev_X9_moves_8
noncomputable def h0_X9_moves_9 : zH 2 := (show zT 2 from (((25, 63, bg_205), (0, 7, 0x100000000010000000001000000000100000000010000000001000000000100000000)), ((0, 66, bg_4), (0, 11, bg_11))), (4, (0, 0)))
noncomputable def h1_X9_moves_9 : zH 2 := (show zT 2 from (((25, 63, bg_205), (0, 7, 0x100000000010000000000000000040000000001000000000300000000020100000000)), ((0, 66, bg_4), (0, 11, bg_11))), (4, (0, 0)))
theorem ev_X9_moves_9 : f_X9_movesa [zR 1, zI 1, zI 1] h0_X9_moves_9 (zrk (zU) h1_X9_moves_9) = true := by decide +kernel
noncomputable def g_X9_moves_9 {d : Nat} : List zV → zH d → zP d → Bool := zsmy [(0, 0), (1, 33), (1, 3), (1, 4)] [zR 1, zI 1, zI 1] h0_X9_moves_9 (zU) h1_X9_moves_9
theorem mg_X9_moves_9 {d : Nat} : zMet (d := d) X_X9_moves yX9_moves 2 g_X9_moves_9 := zMet_sm m_X9_movesa ev_X9_moves_9
noncomputable def h0_X9_moves_10 : zH 2 := (show zT 2 from (((25, 63, bg_205), (0, 7, 0x100000000010000000001000000000100000000010000000001000000000100000000)), ((0, 66, bg_4), (0, 11, bg_11))), (4, (0, 0)))
noncomputable def h1_X9_moves_10 : zH 2 := (show zT 2 from (((25, 63, bg_205), (0, 7, 0x100000000010000000000000000040000000003000000000200000000010100000000)), ((0, 66, bg_4), (0, 11, bg_11))), (4, (0, 0)))
theorem ev_X9_moves_10 : f_X9_movesa [zR 1, zI 1, zI 3] h0_X9_moves_10 (zrk (zU) h1_X9_moves_10) = true := by decide +kernel
noncomputable def g_X9_moves_10 {d : Nat} : List zV → zH d → zP d → Bool := zsmy [(0, 0), (1, 33), (1, 3), (1, 4)] [zR 1, zI 1, zI 3] h0_X9_moves_10 (zU) h1_X9_moves_10
theorem mg_X9_moves_10 {d : Nat} : zMet (d := d) X_X9_moves yX9_moves 2 g_X9_moves_10 := zMet_sm m_X9_movesa ev_X9_moves_10
noncomputable def h0_X9_moves_11 : zH 2 := (show zT 2 from (((25, 63, bg_205), (0, 7, 0x100000000010000000001000000000100000000010000000001000000000100000000)), ((0, 66, bg_4), (0, 11, bg_11))), (4, (0, 0)))
noncomputable def h1_X9_moves_11 : zH 2 := (show zT 2 from (((25, 63, bg_205), (0, 7, 0x100000000010000000000000000040000000003000000000200000000010100000000)), ((0, 66, bg_4), (0, 11, bg_11))), (4, (0, 0)))
theorem ev_X9_moves_11 : f_X9_movesa [zR 1, zI 4, zI 1] h0_X9_moves_11 (zrk (zU) h1_X9_moves_11) = true := by decide +kernel
noncomputable def g_X9_moves_11 {d : Nat} : List zV → zH d → zP d → Bool := zsmy [(0, 0), (1, 33), (1, 3), (1, 4)] [zR 1, zI 4, zI 1] h0_X9_moves_11 (zU) h1_X9_moves_11
theorem mg_X9_moves_11 {d : Nat} : zMet (d := d) X_X9_moves yX9_moves 2 g_X9_moves_11 := zMet_sm m_X9_movesa ev_X9_moves_11
noncomputable def h0_X9_moves_12 : zH 2 := (show zT 2 from (((25, 63, bg_205), (0, 7, 0x100000000010000000001000000000100000000010000000001000000000100000000)), ((0, 66, bg_4), (0, 11, bg_11))), (4, (0, 0)))
noncomputable def h1_X9_moves_12 : zH 2 := (show zT 2 from (((25, 63, bg_205), (0, 7, 0x100000000010000000000000000010000000004000000000300000000020100000000)), ((0, 66, bg_4), (0, 11, bg_11))), (4, (0, 0)))
theorem ev_X9_moves_12 : f_X9_movesa [zR 1, zI 0, zI 1] h0_X9_moves_12 (zrk (zU) h1_X9_moves_12) = true := by decide +kernel
noncomputable def g_X9_moves_12 {d : Nat} : List zV → zH d → zP d → Bool := zsmy [(0, 0), (1, 33), (1, 3), (1, 4)] [zR 1, zI 0, zI 1] h0_X9_moves_12 (zU) h1_X9_moves_12
theorem mg_X9_moves_12 {d : Nat} : zMet (d := d) X_X9_moves yX9_moves 2 g_X9_moves_12 := zMet_sm m_X9_movesa ev_X9_moves_12
noncomputable def h0_X9_moves_13 : zH 2 := (show zT 2 from (((25, 63, bg_205), (0, 7, 0x100000000010000000001000000000100000000010000000001000000000100000000)), ((0, 66, bg_4), (0, 11, bg_11))), (4, (0, 0)))
noncomputable def h1_X9_moves_13 : zH 2 := (show zT 2 from (((25, 63, bg_205), (0, 7, 0x100000000010000000000000000020000000001000000000400000000030100000000)), ((0, 66, bg_4), (0, 11, bg_11))), (4, (0, 0)))
theorem ev_X9_moves_13 : f_X9_movesa [zR 1, zI 0, zI 2] h0_X9_moves_13 (zrk (zU) h1_X9_moves_13) = true := by decide +kernel
noncomputable def g_X9_moves_13 {d : Nat} : List zV → zH d → zP d → Bool := zsmy [(0, 0), (1, 33), (1, 3), (1, 4)] [zR 1, zI 0, zI 2] h0_X9_moves_13 (zU) h1_X9_moves_13
theorem mg_X9_moves_13 {d : Nat} : zMet (d := d) X_X9_moves yX9_moves 2 g_X9_moves_13 := zMet_sm m_X9_movesa ev_X9_moves_13
noncomputable def h0_X9_moves_14 : zH 2 := (show zT 2 from (((25, 63, bg_205), (0, 7, 0x100000000010000000001000000000100000000010000000001000000000100000000)), ((0, 66, bg_4), (0, 11, bg_11))), (4, (0, 0)))
noncomputable def h1_X9_moves_14 : zH 2 := (show zT 2 from (((25, 63, bg_205), (0, 7, 0x100000000010000000000000000040000000003000000000200000000010100000000)), ((0, 66, bg_4), (0, 11, bg_11))), (4, (0, 0)))
theorem ev_X9_moves_14 : f_X9_movesa [zR 1, zI 0, zI 4] h0_X9_moves_14 (zrk (zU) h1_X9_moves_14) = true := by decide +kernel
noncomputable def g_X9_moves_14 {d : Nat} : List zV → zH d → zP d → Bool := zsmy [(0, 0), (1, 33), (1, 3), (1, 4)] [zR 1, zI 0, zI 4] h0_X9_moves_14 (zU) h1_X9_moves_14
theorem mg_X9_moves_14 {d : Nat} : zMet (d := d) X_X9_moves yX9_moves 2 g_X9_moves_14 := zMet_sm m_X9_movesa ev_X9_moves_14
noncomputable def h0_X9_moves_15 : zH 2 := (show zT 2 from (((25, 63, bg_205), (0, 7, 0x100000000010000000001000000000100000000010000000001000000000100000000)), ((0, 66, bg_4), (0, 11, bg_11))), (4, (0, 0)))
noncomputable def h1_X9_moves_15 : zH 2 := (show zT 2 from (((25, 63, bg_205), (0, 7, 0x100000000010000000000000000030000000004000000000100000000020100000000)), ((0, 66, bg_4), (0, 11, bg_11))), (4, (0, 0)))
theorem ev_X9_moves_15 : f_X9_movesa [zR 1, zI 2, zI 1] h0_X9_moves_15 (zrk (zU) h1_X9_moves_15) = true := by decide +kernel
noncomputable def g_X9_moves_15 {d : Nat} : List zV → zH d → zP d → Bool := zsmy [(0, 0), (1, 33), (1, 3), (1, 4)] [zR 1, zI 2, zI 1] h0_X9_moves_15 (zU) h1_X9_moves_15
theorem mg_X9_moves_15 {d : Nat} : zMet (d := d) X_X9_moves yX9_moves 2 g_X9_moves_15 := zMet_sm m_X9_movesa ev_X9_moves_15
noncomputable def h0_X9_moves_16 : zH 2 := (show zT 2 from (((25, 63, bg_205), (0, 7, 0x100000000010000000001000000000100000000010000000001000000000100000000)), ((0, 66, bg_4), (0, 11, bg_11))), (4, (0, 0)))
noncomputable def h1_X9_moves_16 : zH 2 := (show zT 2 from (((25, 63, bg_205), (0, 7, 0x100000000010000000000000000040000000003000000000200000000010100000000)), ((0, 66, bg_4), (0, 11, bg_11))), (4, (0, 0)))
theorem ev_X9_moves_16 : f_X9_movesa [zR 1, zI 2, zI 2] h0_X9_moves_16 (zrk (zU) h1_X9_moves_16) = true := by decide +kernel
noncomputable def g_X9_moves_16 {d : Nat} : List zV → zH d → zP d → Bool := zsmy [(0, 0), (1, 33), (1, 3), (1, 4)] [zR 1, zI 2, zI 2] h0_X9_moves_16 (zU) h1_X9_moves_16
theorem mg_X9_moves_16 {d : Nat} : zMet (d := d) X_X9_moves yX9_moves 2 g_X9_moves_16 := zMet_sm m_X9_movesa ev_X9_moves_16
noncomputable def h0_X9_moves_17 : zH 2 := (show zT 2 from (((25, 63, bg_205), (0, 7, 0x100000000010000000001000000000100000000010000000001000000000100000000)), ((0, 66, bg_4), (0, 11, bg_11))), (4, (0, 0)))
noncomputable def h1_X9_moves_17 : zH 2 := (show zT 2 from (((25, 63, bg_205), (0, 7, 0x100000000010000000000000000040000000003000000000100000000020100000000)), ((0, 66, bg_4), (0, 11, bg_11))), (4, (0, 0)))
theorem ev_X9_moves_17 : f_X9_movesa [zR 1, zI 3, zI 1] h0_X9_moves_17 (zrk (zU) h1_X9_moves_17) = true := by decide +kernel
noncomputable def g_X9_moves_17 {d : Nat} : List zV → zH d → zP d → Bool := zsmy [(0, 0), (1, 33), (1, 3), (1, 4)] [zR 1, zI 3, zI 1] h0_X9_moves_17 (zU) h1_X9_moves_17
theorem mg_X9_moves_17 {d : Nat} : zMet (d := d) X_X9_moves yX9_moves 2 g_X9_moves_17 := zMet_sm m_X9_movesa ev_X9_moves_17
noncomputable def h0_X9_moves_18 : zH 2 := (show zT 2 from (((25, 63, bg_205), (0, 7, 0x100000000010000000001000000000100000000010000000001000000000100000000)), ((0, 66, bg_4), (0, 11, bg_11))), (4, (0, 0)))
noncomputable def h1_X9_moves_18 : zH 2 := (show zT 2 from (((25, 63, bg_205), (0, 7, 0x100000000010000000000000000040000000003000000000200000000010100000000)), ((0, 66, bg_4), (0, 11, bg_11))), (4, (0, 0)))
theorem ev_X9_moves_18 : f_X9_movesa [zR 1, zI 3, zI 2] h0_X9_moves_18 (zrk (zU) h1_X9_moves_18) = true := by decide +kernel
noncomputable def g_X9_moves_18 {d : Nat} : List zV → zH d → zP d → Bool := zsmy [(0, 0), (1, 33), (1, 3), (1, 4)] [zR 1, zI 3, zI 2] h0_X9_moves_18 (zU) h1_X9_moves_18
theorem mg_X9_moves_18 {d : Nat} : zMet (d := d) X_X9_moves yX9_moves 2 g_X9_moves_18 := zMet_sm m_X9_movesa ev_X9_moves_18
noncomputable def h0_X9_moves_19 : zH 2 := (show zT 2 from (((25, 63, bg_205), (0, 7, 0x100000000010000000001000000000100000000010000000001000000000100000000)), ((0, 66, bg_5), (0, 11, bg_12))), (4, (0, 0)))
noncomputable def h1_X9_moves_19 : zH 2 := (show zT 2 from (((25, 63, bg_205), (0, 7, 0x100000000000000000100000000050000000004000000000300000000020100000000)), ((0, 66, bg_5), (0, 11, bg_12))), (4, (0, 0)))
theorem ev_X9_moves_19 : f_X9_movesa [zR 1, zI 0, zI 1] h0_X9_moves_19 (zrk (zU) h1_X9_moves_19) = true := by decide +kernel
noncomputable def g_X9_moves_19 {d : Nat} : List zV → zH d → zP d → Bool := zsmy [(0, 0), (1, 33), (1, 3), (1, 4)] [zR 1, zI 0, zI 1] h0_X9_moves_19 (zU) h1_X9_moves_19
theorem mg_X9_moves_19 {d : Nat} : zMet (d := d) X_X9_moves yX9_moves 2 g_X9_moves_19 := zMet_sm m_X9_movesa ev_X9_moves_19
noncomputable def h0_X9_moves_20 : zH 2 := (show zT 2 from (((25, 63, bg_205), (0, 7, 0x100000000010000000001000000000100000000010000000001000000000100000000)), ((0, 66, bg_5), (0, 11, bg_12))), (4, (0, 0)))
noncomputable def h1_X9_moves_20 : zH 2 := (show zT 2 from (((25, 63, bg_205), (0, 7, 0x100000000000000000500000000040000000003000000000200000000010100000000)), ((0, 66, bg_5), (0, 11, bg_12))), (4, (0, 0)))
theorem ev_X9_moves_20 : f_X9_movesa [zR 1, zI 0, zI 5] h0_X9_moves_20 (zrk (zU) h1_X9_moves_20) = true := by decide +kernel
noncomputable def g_X9_moves_20 {d : Nat} : List zV → zH d → zP d → Bool := zsmy [(0, 0), (1, 33), (1, 3), (1, 4)] [zR 1, zI 0, zI 5] h0_X9_moves_20 (zU) h1_X9_moves_20
theorem mg_X9_moves_20 {d : Nat} : zMet (d := d) X_X9_moves yX9_moves 2 g_X9_moves_20 := zMet_sm m_X9_movesa ev_X9_moves_20
noncomputable def h0_X9_moves_21 : zH 2 := (show zT 2 from (((25, 63, bg_205), (0, 7, 0x100000000010000000001000000000100000000010000000001000000000100000000)), ((0, 66, bg_5), (0, 11, bg_12))), (4, (0, 0)))
noncomputable def h1_X9_moves_21 : zH 2 := (show zT 2 from (((25, 63, bg_205), (0, 7, 0x100000000000000000500000000040000000001000000000300000000020100000000)), ((0, 66, bg_5), (0, 11, bg_12))), (4, (0, 0)))
theorem ev_X9_moves_21 : f_X9_movesa [zR 1, zI 3, zI 1] h0_X9_moves_21 (zrk (zU) h1_X9_moves_21) = true := by decide +kernel
noncomputable def g_X9_moves_21 {d : Nat} : List zV → zH d → zP d → Bool := zsmy [(0, 0), (1, 33), (1, 3), (1, 4)] [zR 1, zI 3, zI 1] h0_X9_moves_21 (zU) h1_X9_moves_21
theorem mg_X9_moves_21 {d : Nat} : zMet (d := d) X_X9_moves yX9_moves 2 g_X9_moves_21 := zMet_sm m_X9_movesa ev_X9_moves_21
noncomputable def h0_X9_moves_22 : zH 2 := (show zT 2 from (((25, 63, bg_205), (0, 7, 0x100000000010000000001000000000100000000010000000001000000000100000000)), ((0, 66, bg_5), (0, 11, bg_12))), (4, (0, 0)))
noncomputable def h1_X9_moves_22 : zH 2 := (show zT 2 from (((25, 63, bg_205), (0, 7, 0x100000000000000000500000000040000000003000000000200000000010100000000)), ((0, 66, bg_5), (0, 11, bg_12))), (4, (0, 0)))
theorem ev_X9_moves_22 : f_X9_movesa [zR 1, zI 3, zI 3] h0_X9_moves_22 (zrk (zU) h1_X9_moves_22) = true := by decide +kernel
noncomputable def g_X9_moves_22 {d : Nat} : List zV → zH d → zP d → Bool := zsmy [(0, 0), (1, 33), (1, 3), (1, 4)] [zR 1, zI 3, zI 3] h0_X9_moves_22 (zU) h1_X9_moves_22
theorem mg_X9_moves_22 {d : Nat} : zMet (d := d) X_X9_moves yX9_moves 2 g_X9_moves_22 := zMet_sm m_X9_movesa ev_X9_moves_22
noncomputable def h0_X9_moves_23 : zH 2 := (show zT 2 from (((25, 63, bg_205), (0, 7, 0x100000000010000000001000000000100000000010000000001000000000100000000)), ((0, 66, bg_5), (0, 11, bg_12))), (4, (0, 0)))
noncomputable def h1_X9_moves_23 : zH 2 := (show zT 2 from (((25, 63, bg_205), (0, 7, 0x100000000000000000500000000040000000003000000000200000000010100000000)), ((0, 66, bg_5), (0, 11, bg_12))), (4, (0, 0)))
theorem ev_X9_moves_23 : f_X9_movesa [zR 1, zI 6, zI 1] h0_X9_moves_23 (zrk (zU) h1_X9_moves_23) = true := by decide +kernel
noncomputable def g_X9_moves_23 {d : Nat} : List zV → zH d → zP d → Bool := zsmy [(0, 0), (1, 33), (1, 3), (1, 4)] [zR 1, zI 6, zI 1] h0_X9_moves_23 (zU) h1_X9_moves_23
theorem mg_X9_moves_23 {d : Nat} : zMet (d := d) X_X9_moves yX9_moves 2 g_X9_moves_23 := zMet_sm m_X9_movesa ev_X9_moves_23
noncomputable def h0_X9_moves_24 : zH 2 := (show zT 2 from (((25, 63, bg_205), (0, 7, 0x100000000010000000001000000000100000000010000000001000000000100000000)), ((0, 66, bg_5), (0, 11, bg_12))), (4, (0, 0)))
noncomputable def h1_X9_moves_24 : zH 2 := (show zT 2 from (((25, 63, bg_205), (0, 7, 0x100000000000000000500000000010000000004000000000300000000020100000000)), ((0, 66, bg_5), (0, 11, bg_12))), (4, (0, 0)))
theorem ev_X9_moves_24 : f_X9_movesa [zR 1, zI 1, zI 1] h0_X9_moves_24 (zrk (zU) h1_X9_moves_24) = true := by decide +kernel
noncomputable def g_X9_moves_24 {d : Nat} : List zV → zH d → zP d → Bool := zsmy [(0, 0), (1, 33), (1, 3), (1, 4)] [zR 1, zI 1, zI 1] h0_X9_moves_24 (zU) h1_X9_moves_24
theorem mg_X9_moves_24 {d : Nat} : zMet (d := d) X_X9_moves yX9_moves 2 g_X9_moves_24 := zMet_sm m_X9_movesa ev_X9_moves_24
noncomputable def h0_X9_moves_25 : zH 2 := (show zT 2 from (((25, 63, bg_205), (0, 7, 0x100000000010000000001000000000100000000010000000001000000000100000000)), ((0, 66, bg_5), (0, 11, bg_12))), (4, (0, 0)))
noncomputable def h1_X9_moves_25 : zH 2 := (show zT 2 from (((25, 63, bg_205), (0, 7, 0x100000000000000000500000000020000000001000000000400000000030100000000)), ((0, 66, bg_5), (0, 11, bg_12))), (4, (0, 0)))
theorem ev_X9_moves_25 : f_X9_movesa [zR 1, zI 1, zI 2] h0_X9_moves_25 (zrk (zU) h1_X9_moves_25) = true := by decide +kernel
noncomputable def g_X9_moves_25 {d : Nat} : List zV → zH d → zP d → Bool := zsmy [(0, 0), (1, 33), (1, 3), (1, 4)] [zR 1, zI 1, zI 2] h0_X9_moves_25 (zU) h1_X9_moves_25
theorem mg_X9_moves_25 {d : Nat} : zMet (d := d) X_X9_moves yX9_moves 2 g_X9_moves_25 := zMet_sm m_X9_movesa ev_X9_moves_25
noncomputable def h0_X9_moves_26 : zH 2 := (show zT 2 from (((25, 63, bg_205), (0, 7, 0x100000000010000000001000000000100000000010000000001000000000100000000)), ((0, 66, bg_5), (0, 11, bg_12))), (4, (0, 0)))
noncomputable def h1_X9_moves_26 : zH 2 := (show zT 2 from (((25, 63, bg_205), (0, 7, 0x100000000000000000500000000040000000003000000000200000000010100000000)), ((0, 66, bg_5), (0, 11, bg_12))), (4, (0, 0)))
theorem ev_X9_moves_26 : f_X9_movesa [zR 1, zI 1, zI 4] h0_X9_moves_26 (zrk (zU) h1_X9_moves_26) = true := by decide +kernel
noncomputable def g_X9_moves_26 {d : Nat} : List zV → zH d → zP d → Bool := zsmy [(0, 0), (1, 33), (1, 3), (1, 4)] [zR 1, zI 1, zI 4] h0_X9_moves_26 (zU) h1_X9_moves_26
theorem mg_X9_moves_26 {d : Nat} : zMet (d := d) X_X9_moves yX9_moves 2 g_X9_moves_26 := zMet_sm m_X9_movesa ev_X9_moves_26
noncomputable def h0_X9_moves_27 : zH 2 := (show zT 2 from (((25, 63, bg_205), (0, 7, 0x100000000010000000001000000000100000000010000000001000000000100000000)), ((0, 66, bg_5), (0, 11, bg_12))), (4, (0, 0)))
noncomputable def h1_X9_moves_27 : zH 2 := (show zT 2 from (((25, 63, bg_205), (0, 7, 0x100000000000000000500000000030000000004000000000100000000020100000000)), ((0, 66, bg_5), (0, 11, bg_12))), (4, (0, 0)))
theorem ev_X9_moves_27 : f_X9_movesa [zR 1, zI 4, zI 1] h0_X9_moves_27 (zrk (zU) h1_X9_moves_27) = true := by decide +kernel
noncomputable def g_X9_moves_27 {d : Nat} : List zV → zH d → zP d → Bool := zsmy [(0, 0), (1, 33), (1, 3), (1, 4)] [zR 1, zI 4, zI 1] h0_X9_moves_27 (zU) h1_X9_moves_27
theorem mg_X9_moves_27 {d : Nat} : zMet (d := d) X_X9_moves yX9_moves 2 g_X9_moves_27 := zMet_sm m_X9_movesa ev_X9_moves_27
noncomputable def h0_X9_moves_28 : zH 2 := (show zT 2 from (((25, 63, bg_205), (0, 7, 0x100000000010000000001000000000100000000010000000001000000000100000000)), ((0, 66, bg_5), (0, 11, bg_12))), (4, (0, 0)))
noncomputable def h1_X9_moves_28 : zH 2 := (show zT 2 from (((25, 63, bg_205), (0, 7, 0x100000000000000000500000000040000000003000000000200000000010100000000)), ((0, 66, bg_5), (0, 11, bg_12))), (4, (0, 0)))
theorem ev_X9_moves_28 : f_X9_movesa [zR 1, zI 4, zI 2] h0_X9_moves_28 (zrk (zU) h1_X9_moves_28) = true := by decide +kernel
noncomputable def g_X9_moves_28 {d : Nat} : List zV → zH d → zP d → Bool := zsmy [(0, 0), (1, 33), (1, 3), (1, 4)] [zR 1, zI 4, zI 2] h0_X9_moves_28 (zU) h1_X9_moves_28
theorem mg_X9_moves_28 {d : Nat} : zMet (d := d) X_X9_moves yX9_moves 2 g_X9_moves_28 := zMet_sm m_X9_movesa ev_X9_moves_28
noncomputable def h0_X9_moves_29 : zH 2 := (show zT 2 from (((25, 63, bg_205), (0, 7, 0x100000000010000000001000000000100000000010000000001000000000100000000)), ((0, 66, bg_5), (0, 11, bg_12))), (4, (0, 0)))
noncomputable def h1_X9_moves_29 : zH 2 := (show zT 2 from (((25, 63, bg_205), (0, 7, 0x100000000000000000500000000040000000003000000000100000000020100000000)), ((0, 66, bg_5), (0, 11, bg_12))), (4, (0, 0)))
theorem ev_X9_moves_29 : f_X9_movesa [zR 1, zI 5, zI 1] h0_X9_moves_29 (zrk (zU) h1_X9_moves_29) = true := by decide +kernel
noncomputable def g_X9_moves_29 {d : Nat} : List zV → zH d → zP d → Bool := zsmy [(0, 0), (1, 33), (1, 3), (1, 4)] [zR 1, zI 5, zI 1] h0_X9_moves_29 (zU) h1_X9_moves_29
theorem mg_X9_moves_29 {d : Nat} : zMet (d := d) X_X9_moves yX9_moves 2 g_X9_moves_29 := zMet_sm m_X9_movesa ev_X9_moves_29
noncomputable def h0_X9_moves_30 : zH 2 := (show zT 2 from (((25, 63, bg_205), (0, 7, 0x100000000010000000001000000000100000000010000000001000000000100000000)), ((0, 66, bg_5), (0, 11, bg_12))), (4, (0, 0)))
noncomputable def h1_X9_moves_30 : zH 2 := (show zT 2 from (((25, 63, bg_205), (0, 7, 0x100000000000000000500000000040000000003000000000200000000010100000000)), ((0, 66, bg_5), (0, 11, bg_12))), (4, (0, 0)))
theorem ev_X9_moves_30 : f_X9_movesa [zR 1, zI 5, zI 2] h0_X9_moves_30 (zrk (zU) h1_X9_moves_30) = true := by decide +kernel
noncomputable def g_X9_moves_30 {d : Nat} : List zV → zH d → zP d → Bool := zsmy [(0, 0), (1, 33), (1, 3), (1, 4)] [zR 1, zI 5, zI 2] h0_X9_moves_30 (zU) h1_X9_moves_30
theorem mg_X9_moves_30 {d : Nat} : zMet (d := d) X_X9_moves yX9_moves 2 g_X9_moves_30 := zMet_sm m_X9_movesa ev_X9_moves_30
noncomputable def h0_X9_moves_31 : zH 2 := (show zT 2 from (((25, 63, bg_205), (0, 7, 0x100000000010000000001000000000100000000010000000001000000000100000000)), ((0, 66, bg_5), (0, 11, bg_12))), (4, (0, 0)))
noncomputable def h1_X9_moves_31 : zH 2 := (show zT 2 from (((25, 63, bg_205), (0, 7, 0x100000000000000000400000000050000000001000000000300000000020100000000)), ((0, 66, bg_5), (0, 11, bg_12))), (4, (0, 0)))
theorem ev_X9_moves_31 : f_X9_movesa [zR 1, zI 2, zI 1] h0_X9_moves_31 (zrk (zU) h1_X9_moves_31) = true := by decide +kernel
noncomputable def g_X9_moves_31 {d : Nat} : List zV → zH d → zP d → Bool := zsmy [(0, 0), (1, 33), (1, 3), (1, 4)] [zR 1, zI 2, zI 1] h0_X9_moves_31 (zU) h1_X9_moves_31
theorem mg_X9_moves_31 {d : Nat} : zMet (d := d) X_X9_moves yX9_moves 2 g_X9_moves_31 := zMet_sm m_X9_movesa ev_X9_moves_31
noncomputable def h0_X9_moves_32 : zH 2 := (show zT 2 from (((25, 63, bg_205), (0, 7, 0x100000000010000000001000000000100000000010000000001000000000100000000)), ((0, 66, bg_5), (0, 11, bg_12))), (4, (0, 0)))
noncomputable def h1_X9_moves_32 : zH 2 := (show zT 2 from (((25, 63, bg_205), (0, 7, 0x100000000000000000500000000040000000002000000000100000000030100000000)), ((0, 66, bg_5), (0, 11, bg_12))), (4, (0, 0)))
theorem ev_X9_moves_32 : f_X9_movesa [zR 1, zI 2, zI 2] h0_X9_moves_32 (zrk (zU) h1_X9_moves_32) = true := by decide +kernel
noncomputable def g_X9_moves_32 {d : Nat} : List zV → zH d → zP d → Bool := zsmy [(0, 0), (1, 33), (1, 3), (1, 4)] [zR 1, zI 2, zI 2] h0_X9_moves_32 (zU) h1_X9_moves_32
theorem mg_X9_moves_32 {d : Nat} : zMet (d := d) X_X9_moves yX9_moves 2 g_X9_moves_32 := zMet_sm m_X9_movesa ev_X9_moves_32
noncomputable def h0_X9_moves_33 : zH 2 := (show zT 2 from (((25, 63, bg_205), (0, 7, 0x100000000010000000001000000000100000000010000000001000000000100000000)), ((0, 66, bg_5), (0, 11, bg_12))), (4, (0, 0)))
noncomputable def h1_X9_moves_33 : zH 2 := (show zT 2 from (((25, 63, bg_205), (0, 7, 0x100000000000000000400000000050000000003000000000200000000010100000000)), ((0, 66, bg_5), (0, 11, bg_12))), (4, (0, 0)))
theorem ev_X9_moves_33 : f_X9_movesa [zR 1, zI 2, zI 3] h0_X9_moves_33 (zrk (zU) h1_X9_moves_33) = true := by decide +kernel
noncomputable def g_X9_moves_33 {d : Nat} : List zV → zH d → zP d → Bool := zsmy [(0, 0), (1, 33), (1, 3), (1, 4)] [zR 1, zI 2, zI 3] h0_X9_moves_33 (zU) h1_X9_moves_33
theorem mg_X9_moves_33 {d : Nat} : zMet (d := d) X_X9_moves yX9_moves 2 g_X9_moves_33 := zMet_sm m_X9_movesa ev_X9_moves_33
noncomputable def h0_X9_moves_34 : zH 2 := (show zT 2 from (((25, 63, bg_205), (0, 7, 0x100000000010000000001000000000100000000010000000001000000000100000000)), ((0, 66, bg_5), (0, 11, bg_12))), (4, (0, 0)))
noncomputable def h1_X9_moves_34 : zH 2 := (show zT 2 from (((25, 63, bg_205), (0, 7, 0x100000000000000000500000000040000000003000000000200000000010100000000)), ((0, 66, bg_5), (0, 11, bg_12))), (4, (0, 0)))
theorem ev_X9_moves_34 : f_X9_movesa [zR 1, zI 2, zI 6] h0_X9_moves_34 (zrk (zU) h1_X9_moves_34) = true := by decide +kernel
noncomputable def g_X9_moves_34 {d : Nat} : List zV → zH d → zP d → Bool := zsmy [(0, 0), (1, 33), (1, 3), (1, 4)] [zR 1, zI 2, zI 6] h0_X9_moves_34 (zU) h1_X9_moves_34
theorem mg_X9_moves_34 {d : Nat} : zMet (d := d) X_X9_moves yX9_moves 2 g_X9_moves_34 := zMet_sm m_X9_movesa ev_X9_moves_34
noncomputable def h0_X9_moves_35 : zH 2 := (show zT 2 from (((25, 63, bg_205), (0, 7, 0x100000000010000000001000000000100000000010000000001000000000100000000)), ((0, 66, bg_6), (0, 11, bg_13))), (4, (0, 0)))
noncomputable def h1_X9_moves_35 : zH 2 := (show zT 2 from (((25, 63, bg_205), (0, 7, 0x6000000000100000000050000000004000000000300000000020100000000)), ((0, 66, bg_6), (0, 11, bg_13))), (4, (0, 0)))
theorem ev_X9_moves_35 : f_X9_movesa [zR 1, zI 1, zI 1] h0_X9_moves_35 (zrk (zU) h1_X9_moves_35) = true := by decide +kernel
noncomputable def g_X9_moves_35 {d : Nat} : List zV → zH d → zP d → Bool := zsmy [(0, 0), (1, 33), (1, 3), (1, 4)] [zR 1, zI 1, zI 1] h0_X9_moves_35 (zU) h1_X9_moves_35
theorem mg_X9_moves_35 {d : Nat} : zMet (d := d) X_X9_moves yX9_moves 2 g_X9_moves_35 := zMet_sm m_X9_movesa ev_X9_moves_35
noncomputable def h0_X9_moves_36 : zH 2 := (show zT 2 from (((25, 63, bg_205), (0, 7, 0x100000000010000000001000000000100000000010000000001000000000100000000)), ((0, 66, bg_6), (0, 11, bg_13))), (4, (0, 0)))
noncomputable def h1_X9_moves_36 : zH 2 := (show zT 2 from (((25, 63, bg_205), (0, 7, 0x6000000000500000000040000000003000000000200000000010100000000)), ((0, 66, bg_6), (0, 11, bg_13))), (4, (0, 0)))
theorem ev_X9_moves_36 : f_X9_movesa [zR 1, zI 1, zI 5] h0_X9_moves_36 (zrk (zU) h1_X9_moves_36) = true := by decide +kernel
noncomputable def g_X9_moves_36 {d : Nat} : List zV → zH d → zP d → Bool := zsmy [(0, 0), (1, 33), (1, 3), (1, 4)] [zR 1, zI 1, zI 5] h0_X9_moves_36 (zU) h1_X9_moves_36
theorem mg_X9_moves_36 {d : Nat} : zMet (d := d) X_X9_moves yX9_moves 2 g_X9_moves_36 := zMet_sm m_X9_movesa ev_X9_moves_36
noncomputable def h0_X9_moves_37 : zH 2 := (show zT 2 from (((25, 63, bg_205), (0, 7, 0x100000000010000000001000000000100000000010000000001000000000100000000)), ((0, 66, bg_6), (0, 11, bg_13))), (4, (0, 0)))
noncomputable def h1_X9_moves_37 : zH 2 := (show zT 2 from (((25, 63, bg_205), (0, 7, 0x4000000000600000000050000000001000000000300000000020100000000)), ((0, 66, bg_6), (0, 11, bg_13))), (4, (0, 0)))
theorem ev_X9_moves_37 : f_X9_movesa [zR 1, zI 4, zI 1] h0_X9_moves_37 (zrk (zU) h1_X9_moves_37) = true := by decide +kernel
noncomputable def g_X9_moves_37 {d : Nat} : List zV → zH d → zP d → Bool := zsmy [(0, 0), (1, 33), (1, 3), (1, 4)] [zR 1, zI 4, zI 1] h0_X9_moves_37 (zU) h1_X9_moves_37
theorem mg_X9_moves_37 {d : Nat} : zMet (d := d) X_X9_moves yX9_moves 2 g_X9_moves_37 := zMet_sm m_X9_movesa ev_X9_moves_37
noncomputable def h0_X9_moves_38 : zH 2 := (show zT 2 from (((25, 63, bg_205), (0, 7, 0x100000000010000000001000000000100000000010000000001000000000100000000)), ((0, 66, bg_6), (0, 11, bg_13))), (4, (0, 0)))
noncomputable def h1_X9_moves_38 : zH 2 := (show zT 2 from (((25, 63, bg_205), (0, 7, 0x6000000000500000000040000000003000000000200000000010100000000)), ((0, 66, bg_6), (0, 11, bg_13))), (4, (0, 0)))
theorem ev_X9_moves_38 : f_X9_movesa [zR 1, zI 4, zI 3] h0_X9_moves_38 (zrk (zU) h1_X9_moves_38) = true := by decide +kernel
noncomputable def g_X9_moves_38 {d : Nat} : List zV → zH d → zP d → Bool := zsmy [(0, 0), (1, 33), (1, 3), (1, 4)] [zR 1, zI 4, zI 3] h0_X9_moves_38 (zU) h1_X9_moves_38
theorem mg_X9_moves_38 {d : Nat} : zMet (d := d) X_X9_moves yX9_moves 2 g_X9_moves_38 := zMet_sm m_X9_movesa ev_X9_moves_38
noncomputable def h0_X9_moves_39 : zH 2 := (show zT 2 from (((25, 63, bg_205), (0, 7, 0x100000000010000000001000000000100000000010000000001000000000100000000)), ((0, 66, bg_6), (0, 11, bg_13))), (4, (0, 0)))
noncomputable def h1_X9_moves_39 : zH 2 := (show zT 2 from (((25, 63, bg_205), (0, 7, 0x6000000000500000000040000000001000000000300000000020100000000)), ((0, 66, bg_6), (0, 11, bg_13))), (4, (0, 0)))
theorem ev_X9_moves_39 : f_X9_movesa [zR 1, zI 6, zI 1] h0_X9_moves_39 (zrk (zU) h1_X9_moves_39) = true := by decide +kernel
noncomputable def g_X9_moves_39 {d : Nat} : List zV → zH d → zP d → Bool := zsmy [(0, 0), (1, 33), (1, 3), (1, 4)] [zR 1, zI 6, zI 1] h0_X9_moves_39 (zU) h1_X9_moves_39
theorem mg_X9_moves_39 {d : Nat} : zMet (d := d) X_X9_moves yX9_moves 2 g_X9_moves_39 := zMet_sm m_X9_movesa ev_X9_moves_39
noncomputable def h0_X9_moves_40 : zH 2 := (show zT 2 from (((25, 63, bg_205), (0, 7, 0x100000000010000000001000000000100000000010000000001000000000100000000)), ((0, 66, bg_6), (0, 11, bg_13))), (4, (0, 0)))
noncomputable def h1_X9_moves_40 : zH 2 := (show zT 2 from (((25, 63, bg_205), (0, 7, 0x6000000000500000000040000000003000000000200000000010100000000)), ((0, 66, bg_6), (0, 11, bg_13))), (4, (0, 0)))
theorem ev_X9_moves_40 : f_X9_movesa [zR 1, zI 6, zI 3] h0_X9_moves_40 (zrk (zU) h1_X9_moves_40) = true := by decide +kernel
noncomputable def g_X9_moves_40 {d : Nat} : List zV → zH d → zP d → Bool := zsmy [(0, 0), (1, 33), (1, 3), (1, 4)] [zR 1, zI 6, zI 3] h0_X9_moves_40 (zU) h1_X9_moves_40
theorem mg_X9_moves_40 {d : Nat} : zMet (d := d) X_X9_moves yX9_moves 2 g_X9_moves_40 := zMet_sm m_X9_movesa ev_X9_moves_40
noncomputable def h0_X9_moves_41 : zH 2 := (show zT 2 from (((25, 63, bg_205), (0, 7, 0x100000000010000000001000000000100000000010000000001000000000100000000)), ((0, 66, bg_6), (0, 11, bg_13))), (4, (0, 0)))
noncomputable def h1_X9_moves_41 : zH 2 := (show zT 2 from (((25, 63, bg_205), (0, 7, 0x6000000000500000000040000000003000000000200000000010100000000)), ((0, 66, bg_6), (0, 11, bg_13))), (4, (0, 0)))
theorem ev_X9_moves_41 : f_X9_movesa [zR 1, zI 10, zI 1] h0_X9_moves_41 (zrk (zU) h1_X9_moves_41) = true := by decide +kernel
noncomputable def g_X9_moves_41 {d : Nat} : List zV → zH d → zP d → Bool := zsmy [(0, 0), (1, 33), (1, 3), (1, 4)] [zR 1, zI 10, zI 1] h0_X9_moves_41 (zU) h1_X9_moves_41
theorem mg_X9_moves_41 {d : Nat} : zMet (d := d) X_X9_moves yX9_moves 2 g_X9_moves_41 := zMet_sm m_X9_movesa ev_X9_moves_41
noncomputable def h0_X9_moves_42 : zH 2 := (show zT 2 from (((25, 63, bg_205), (0, 7, 0x100000000010000000001000000000100000000010000000001000000000100000000)), ((0, 66, bg_6), (0, 11, bg_13))), (4, (0, 0)))
noncomputable def h1_X9_moves_42 : zH 2 := (show zT 2 from (((25, 63, bg_205), (0, 7, 0x5000000000600000000010000000004000000000300000000020100000000)), ((0, 66, bg_6), (0, 11, bg_13))), (4, (0, 0)))
theorem ev_X9_moves_42 : f_X9_movesa [zR 1, zI 2, zI 1] h0_X9_moves_42 (zrk (zU) h1_X9_moves_42) = true := by decide +kernel
noncomputable def g_X9_moves_42 {d : Nat} : List zV → zH d → zP d → Bool := zsmy [(0, 0), (1, 33), (1, 3), (1, 4)] [zR 1, zI 2, zI 1] h0_X9_moves_42 (zU) h1_X9_moves_42
theorem mg_X9_moves_42 {d : Nat} : zMet (d := d) X_X9_moves yX9_moves 2 g_X9_moves_42 := zMet_sm m_X9_movesa ev_X9_moves_42
noncomputable def h0_X9_moves_43 : zH 2 := (show zT 2 from (((25, 63, bg_205), (0, 7, 0x100000000010000000001000000000100000000010000000001000000000100000000)), ((0, 66, bg_6), (0, 11, bg_13))), (4, (0, 0)))
noncomputable def h1_X9_moves_43 : zH 2 := (show zT 2 from (((25, 63, bg_205), (0, 7, 0x6000000000500000000020000000001000000000400000000030100000000)), ((0, 66, bg_6), (0, 11, bg_13))), (4, (0, 0)))
theorem ev_X9_moves_43 : f_X9_movesa [zR 1, zI 2, zI 2] h0_X9_moves_43 (zrk (zU) h1_X9_moves_43) = true := by decide +kernel
noncomputable def g_X9_moves_43 {d : Nat} : List zV → zH d → zP d → Bool := zsmy [(0, 0), (1, 33), (1, 3), (1, 4)] [zR 1, zI 2, zI 2] h0_X9_moves_43 (zU) h1_X9_moves_43
theorem mg_X9_moves_43 {d : Nat} : zMet (d := d) X_X9_moves yX9_moves 2 g_X9_moves_43 := zMet_sm m_X9_movesa ev_X9_moves_43
noncomputable def h0_X9_moves_44 : zH 2 := (show zT 2 from (((25, 63, bg_205), (0, 7, 0x100000000010000000001000000000100000000010000000001000000000100000000)), ((0, 66, bg_6), (0, 11, bg_13))), (4, (0, 0)))
noncomputable def h1_X9_moves_44 : zH 2 := (show zT 2 from (((25, 63, bg_205), (0, 7, 0x6000000000500000000040000000003000000000200000000010100000000)), ((0, 66, bg_6), (0, 11, bg_13))), (4, (0, 0)))
theorem ev_X9_moves_44 : f_X9_movesa [zR 1, zI 2, zI 4] h0_X9_moves_44 (zrk (zU) h1_X9_moves_44) = true := by decide +kernel
noncomputable def g_X9_moves_44 {d : Nat} : List zV → zH d → zP d → Bool := zsmy [(0, 0), (1, 33), (1, 3), (1, 4)] [zR 1, zI 2, zI 4] h0_X9_moves_44 (zU) h1_X9_moves_44
theorem mg_X9_moves_44 {d : Nat} : zMet (d := d) X_X9_moves yX9_moves 2 g_X9_moves_44 := zMet_sm m_X9_movesa ev_X9_moves_44
noncomputable def h0_X9_moves_45 : zH 2 := (show zT 2 from (((25, 63, bg_205), (0, 7, 0x100000000010000000001000000000100000000010000000001000000000100000000)), ((0, 66, bg_6), (0, 11, bg_13))), (4, (0, 0)))
noncomputable def h1_X9_moves_45 : zH 2 := (show zT 2 from (((25, 63, bg_205), (0, 7, 0x6000000000500000000010000000004000000000300000000020100000000)), ((0, 66, bg_6), (0, 11, bg_13))), (4, (0, 0)))
theorem ev_X9_moves_45 : f_X9_movesa [zR 1, zI 3, zI 1] h0_X9_moves_45 (zrk (zU) h1_X9_moves_45) = true := by decide +kernel
noncomputable def g_X9_moves_45 {d : Nat} : List zV → zH d → zP d → Bool := zsmy [(0, 0), (1, 33), (1, 3), (1, 4)] [zR 1, zI 3, zI 1] h0_X9_moves_45 (zU) h1_X9_moves_45
theorem mg_X9_moves_45 {d : Nat} : zMet (d := d) X_X9_moves yX9_moves 2 g_X9_moves_45 := zMet_sm m_X9_movesa ev_X9_moves_45
noncomputable def h0_X9_moves_46 : zH 2 := (show zT 2 from (((25, 63, bg_205), (0, 7, 0x100000000010000000001000000000100000000010000000001000000000100000000)), ((0, 66, bg_6), (0, 11, bg_13))), (4, (0, 0)))
noncomputable def h1_X9_moves_46 : zH 2 := (show zT 2 from (((25, 63, bg_205), (0, 7, 0x6000000000500000000020000000001000000000400000000030100000000)), ((0, 66, bg_6), (0, 11, bg_13))), (4, (0, 0)))
theorem ev_X9_moves_46 : f_X9_movesa [zR 1, zI 3, zI 2] h0_X9_moves_46 (zrk (zU) h1_X9_moves_46) = true := by decide +kernel
noncomputable def g_X9_moves_46 {d : Nat} : List zV → zH d → zP d → Bool := zsmy [(0, 0), (1, 33), (1, 3), (1, 4)] [zR 1, zI 3, zI 2] h0_X9_moves_46 (zU) h1_X9_moves_46
theorem mg_X9_moves_46 {d : Nat} : zMet (d := d) X_X9_moves yX9_moves 2 g_X9_moves_46 := zMet_sm m_X9_movesa ev_X9_moves_46
noncomputable def h0_X9_moves_47 : zH 2 := (show zT 2 from (((25, 63, bg_205), (0, 7, 0x100000000010000000001000000000100000000010000000001000000000100000000)), ((0, 66, bg_6), (0, 11, bg_13))), (4, (0, 0)))
noncomputable def h1_X9_moves_47 : zH 2 := (show zT 2 from (((25, 63, bg_205), (0, 7, 0x6000000000500000000040000000003000000000200000000010100000000)), ((0, 66, bg_6), (0, 11, bg_13))), (4, (0, 0)))
theorem ev_X9_moves_47 : f_X9_movesa [zR 1, zI 3, zI 4] h0_X9_moves_47 (zrk (zU) h1_X9_moves_47) = true := by decide +kernel
noncomputable def g_X9_moves_47 {d : Nat} : List zV → zH d → zP d → Bool := zsmy [(0, 0), (1, 33), (1, 3), (1, 4)] [zR 1, zI 3, zI 4] h0_X9_moves_47 (zU) h1_X9_moves_47
theorem mg_X9_moves_47 {d : Nat} : zMet (d := d) X_X9_moves yX9_moves 2 g_X9_moves_47 := zMet_sm m_X9_movesa ev_X9_moves_47
noncomputable def h0_X9_moves_48 : zH 2 := (show zT 2 from (((25, 63, bg_205), (0, 7, 0x100000000010000000001000000000100000000010000000001000000000100000000)), ((0, 66, bg_6), (0, 11, bg_13))), (4, (0, 0)))
noncomputable def h1_X9_moves_48 : zH 2 := (show zT 2 from (((25, 63, bg_205), (0, 7, 0x5000000000600000000030000000004000000000100000000020100000000)), ((0, 66, bg_6), (0, 11, bg_13))), (4, (0, 0)))
theorem ev_X9_moves_48 : f_X9_movesa [zR 1, zI 7, zI 1] h0_X9_moves_48 (zrk (zU) h1_X9_moves_48) = true := by decide +kernel
noncomputable def g_X9_moves_48 {d : Nat} : List zV → zH d → zP d → Bool := zsmy [(0, 0), (1, 33), (1, 3), (1, 4)] [zR 1, zI 7, zI 1] h0_X9_moves_48 (zU) h1_X9_moves_48
theorem mg_X9_moves_48 {d : Nat} : zMet (d := d) X_X9_moves yX9_moves 2 g_X9_moves_48 := zMet_sm m_X9_movesa ev_X9_moves_48
noncomputable def h0_X9_moves_49 : zH 2 := (show zT 2 from (((25, 63, bg_205), (0, 7, 0x100000000010000000001000000000100000000010000000001000000000100000000)), ((0, 66, bg_6), (0, 11, bg_13))), (4, (0, 0)))
noncomputable def h1_X9_moves_49 : zH 2 := (show zT 2 from (((25, 63, bg_205), (0, 7, 0x6000000000500000000040000000003000000000200000000010100000000)), ((0, 66, bg_6), (0, 11, bg_13))), (4, (0, 0)))
theorem ev_X9_moves_49 : f_X9_movesa [zR 1, zI 7, zI 2] h0_X9_moves_49 (zrk (zU) h1_X9_moves_49) = true := by decide +kernel
noncomputable def g_X9_moves_49 {d : Nat} : List zV → zH d → zP d → Bool := zsmy [(0, 0), (1, 33), (1, 3), (1, 4)] [zR 1, zI 7, zI 2] h0_X9_moves_49 (zU) h1_X9_moves_49
theorem mg_X9_moves_49 {d : Nat} : zMet (d := d) X_X9_moves yX9_moves 2 g_X9_moves_49 := zMet_sm m_X9_movesa ev_X9_moves_49
noncomputable def h0_X9_moves_50 : zH 2 := (show zT 2 from (((25, 63, bg_205), (0, 7, 0x100000000010000000001000000000100000000010000000001000000000100000000)), ((0, 66, bg_6), (0, 11, bg_13))), (4, (0, 0)))
noncomputable def h1_X9_moves_50 : zH 2 := (show zT 2 from (((25, 63, bg_205), (0, 7, 0x6000000000500000000030000000004000000000100000000020100000000)), ((0, 66, bg_6), (0, 11, bg_13))), (4, (0, 0)))
theorem ev_X9_moves_50 : f_X9_movesa [zR 1, zI 8, zI 1] h0_X9_moves_50 (zrk (zU) h1_X9_moves_50) = true := by decide +kernel
noncomputable def g_X9_moves_50 {d : Nat} : List zV → zH d → zP d → Bool := zsmy [(0, 0), (1, 33), (1, 3), (1, 4)] [zR 1, zI 8, zI 1] h0_X9_moves_50 (zU) h1_X9_moves_50
theorem mg_X9_moves_50 {d : Nat} : zMet (d := d) X_X9_moves yX9_moves 2 g_X9_moves_50 := zMet_sm m_X9_movesa ev_X9_moves_50
noncomputable def h0_X9_moves_51 : zH 2 := (show zT 2 from (((25, 63, bg_205), (0, 7, 0x100000000010000000001000000000100000000010000000001000000000100000000)), ((0, 66, bg_6), (0, 11, bg_13))), (4, (0, 0)))
noncomputable def h1_X9_moves_51 : zH 2 := (show zT 2 from (((25, 63, bg_205), (0, 7, 0x6000000000500000000040000000003000000000200000000010100000000)), ((0, 66, bg_6), (0, 11, bg_13))), (4, (0, 0)))
theorem ev_X9_moves_51 : f_X9_movesa [zR 1, zI 8, zI 2] h0_X9_moves_51 (zrk (zU) h1_X9_moves_51) = true := by decide +kernel
noncomputable def g_X9_moves_51 {d : Nat} : List zV → zH d → zP d → Bool := zsmy [(0, 0), (1, 33), (1, 3), (1, 4)] [zR 1, zI 8, zI 2] h0_X9_moves_51 (zU) h1_X9_moves_51
theorem mg_X9_moves_51 {d : Nat} : zMet (d := d) X_X9_moves yX9_moves 2 g_X9_moves_51 := zMet_sm m_X9_movesa ev_X9_moves_51
noncomputable def h0_X9_moves_52 : zH 2 := (show zT 2 from (((25, 63, bg_205), (0, 7, 0x100000000010000000001000000000100000000010000000001000000000100000000)), ((0, 66, bg_6), (0, 11, bg_13))), (4, (0, 0)))
noncomputable def h1_X9_moves_52 : zH 2 := (show zT 2 from (((25, 63, bg_205), (0, 7, 0x6000000000500000000040000000003000000000100000000020100000000)), ((0, 66, bg_6), (0, 11, bg_13))), (4, (0, 0)))
theorem ev_X9_moves_52 : f_X9_movesa [zR 1, zI 9, zI 1] h0_X9_moves_52 (zrk (zU) h1_X9_moves_52) = true := by decide +kernel
noncomputable def g_X9_moves_52 {d : Nat} : List zV → zH d → zP d → Bool := zsmy [(0, 0), (1, 33), (1, 3), (1, 4)] [zR 1, zI 9, zI 1] h0_X9_moves_52 (zU) h1_X9_moves_52
theorem mg_X9_moves_52 {d : Nat} : zMet (d := d) X_X9_moves yX9_moves 2 g_X9_moves_52 := zMet_sm m_X9_movesa ev_X9_moves_52
noncomputable def h0_X9_moves_53 : zH 2 := (show zT 2 from (((25, 63, bg_205), (0, 7, 0x100000000010000000001000000000100000000010000000001000000000100000000)), ((0, 66, bg_6), (0, 11, bg_13))), (4, (0, 0)))
noncomputable def h1_X9_moves_53 : zH 2 := (show zT 2 from (((25, 63, bg_205), (0, 7, 0x6000000000500000000040000000003000000000200000000010100000000)), ((0, 66, bg_6), (0, 11, bg_13))), (4, (0, 0)))
theorem ev_X9_moves_53 : f_X9_movesa [zR 1, zI 9, zI 2] h0_X9_moves_53 (zrk (zU) h1_X9_moves_53) = true := by decide +kernel
noncomputable def g_X9_moves_53 {d : Nat} : List zV → zH d → zP d → Bool := zsmy [(0, 0), (1, 33), (1, 3), (1, 4)] [zR 1, zI 9, zI 2] h0_X9_moves_53 (zU) h1_X9_moves_53
theorem mg_X9_moves_53 {d : Nat} : zMet (d := d) X_X9_moves yX9_moves 2 g_X9_moves_53 := zMet_sm m_X9_movesa ev_X9_moves_53
noncomputable def h0_X9_moves_54 : zH 2 := (show zT 2 from (((25, 63, bg_205), (0, 7, 0x100000000010000000001000000000100000000010000000001000000000100000000)), ((0, 66, bg_6), (0, 11, bg_13))), (4, (0, 0)))
noncomputable def h1_X9_moves_54 : zH 2 := (show zT 2 from (((25, 63, bg_205), (0, 7, 0x1000000000600000000050000000004000000000300000000020100000000)), ((0, 66, bg_6), (0, 11, bg_13))), (4, (0, 0)))
theorem ev_X9_moves_54 : f_X9_movesa [zR 1, zI 0, zI 1] h0_X9_moves_54 (zrk (zU) h1_X9_moves_54) = true := by decide +kernel
noncomputable def g_X9_moves_54 {d : Nat} : List zV → zH d → zP d → Bool := zsmy [(0, 0), (1, 33), (1, 3), (1, 4)] [zR 1, zI 0, zI 1] h0_X9_moves_54 (zU) h1_X9_moves_54
theorem mg_X9_moves_54 {d : Nat} : zMet (d := d) X_X9_moves yX9_moves 2 g_X9_moves_54 := zMet_sm m_X9_movesa ev_X9_moves_54
noncomputable def h0_X9_moves_55 : zH 2 := (show zT 2 from (((25, 63, bg_205), (0, 7, 0x100000000010000000001000000000100000000010000000001000000000100000000)), ((0, 66, bg_6), (0, 11, bg_13))), (4, (0, 0)))
noncomputable def h1_X9_moves_55 : zH 2 := (show zT 2 from (((25, 63, bg_205), (0, 7, 0x2000000000100000000060000000005000000000400000000030100000000)), ((0, 66, bg_6), (0, 11, bg_13))), (4, (0, 0)))
theorem ev_X9_moves_55 : f_X9_movesa [zR 1, zI 0, zI 2] h0_X9_moves_55 (zrk (zU) h1_X9_moves_55) = true := by decide +kernel
noncomputable def g_X9_moves_55 {d : Nat} : List zV → zH d → zP d → Bool := zsmy [(0, 0), (1, 33), (1, 3), (1, 4)] [zR 1, zI 0, zI 2] h0_X9_moves_55 (zU) h1_X9_moves_55
theorem mg_X9_moves_55 {d : Nat} : zMet (d := d) X_X9_moves yX9_moves 2 g_X9_moves_55 := zMet_sm m_X9_movesa ev_X9_moves_55
noncomputable def h0_X9_moves_56 : zH 2 := (show zT 2 from (((25, 63, bg_205), (0, 7, 0x100000000010000000001000000000100000000010000000001000000000100000000)), ((0, 66, bg_6), (0, 11, bg_13))), (4, (0, 0)))
noncomputable def h1_X9_moves_56 : zH 2 := (show zT 2 from (((25, 63, bg_205), (0, 7, 0x3000000000200000000010000000006000000000500000000040100000000)), ((0, 66, bg_6), (0, 11, bg_13))), (4, (0, 0)))
theorem ev_X9_moves_56 : f_X9_movesa [zR 1, zI 0, zI 3] h0_X9_moves_56 (zrk (zU) h1_X9_moves_56) = true := by decide +kernel
noncomputable def g_X9_moves_56 {d : Nat} : List zV → zH d → zP d → Bool := zsmy [(0, 0), (1, 33), (1, 3), (1, 4)] [zR 1, zI 0, zI 3] h0_X9_moves_56 (zU) h1_X9_moves_56
theorem mg_X9_moves_56 {d : Nat} : zMet (d := d) X_X9_moves yX9_moves 2 g_X9_moves_56 := zMet_sm m_X9_movesa ev_X9_moves_56
noncomputable def h0_X9_moves_57 : zH 2 := (show zT 2 from (((25, 63, bg_205), (0, 7, 0x100000000010000000001000000000100000000010000000001000000000100000000)), ((0, 66, bg_6), (0, 11, bg_13))), (4, (0, 0)))
noncomputable def h1_X9_moves_57 : zH 2 := (show zT 2 from (((25, 63, bg_205), (0, 7, 0x6000000000500000000040000000003000000000200000000010100000000)), ((0, 66, bg_6), (0, 11, bg_13))), (4, (0, 0)))
theorem ev_X9_moves_57 : f_X9_movesa [zR 1, zI 0, zI 6] h0_X9_moves_57 (zrk (zU) h1_X9_moves_57) = true := by decide +kernel
noncomputable def g_X9_moves_57 {d : Nat} : List zV → zH d → zP d → Bool := zsmy [(0, 0), (1, 33), (1, 3), (1, 4)] [zR 1, zI 0, zI 6] h0_X9_moves_57 (zU) h1_X9_moves_57
theorem mg_X9_moves_57 {d : Nat} : zMet (d := d) X_X9_moves yX9_moves 2 g_X9_moves_57 := zMet_sm m_X9_movesa ev_X9_moves_57
noncomputable def h0_X9_moves_58 : zH 2 := (show zT 2 from (((25, 63, bg_205), (0, 7, 0x100000000010000000001000000000100000000010000000001000000000100000000)), ((0, 66, bg_6), (0, 11, bg_13))), (4, (0, 0)))
noncomputable def h1_X9_moves_58 : zH 2 := (show zT 2 from (((25, 63, bg_205), (0, 7, 0x6000000000400000000050000000001000000000300000000020100000000)), ((0, 66, bg_6), (0, 11, bg_13))), (4, (0, 0)))
theorem ev_X9_moves_58 : f_X9_movesa [zR 1, zI 5, zI 1] h0_X9_moves_58 (zrk (zU) h1_X9_moves_58) = true := by decide +kernel
noncomputable def g_X9_moves_58 {d : Nat} : List zV → zH d → zP d → Bool := zsmy [(0, 0), (1, 33), (1, 3), (1, 4)] [zR 1, zI 5, zI 1] h0_X9_moves_58 (zU) h1_X9_moves_58
theorem mg_X9_moves_58 {d : Nat} : zMet (d := d) X_X9_moves yX9_moves 2 g_X9_moves_58 := zMet_sm m_X9_movesa ev_X9_moves_58
noncomputable def h0_X9_moves_59 : zH 2 := (show zT 2 from (((25, 63, bg_205), (0, 7, 0x100000000010000000001000000000100000000010000000001000000000100000000)), ((0, 66, bg_6), (0, 11, bg_13))), (4, (0, 0)))
noncomputable def h1_X9_moves_59 : zH 2 := (show zT 2 from (((25, 63, bg_205), (0, 7, 0x6000000000500000000040000000002000000000100000000030100000000)), ((0, 66, bg_6), (0, 11, bg_13))), (4, (0, 0)))
theorem ev_X9_moves_59 : f_X9_movesa [zR 1, zI 5, zI 2] h0_X9_moves_59 (zrk (zU) h1_X9_moves_59) = true := by decide +kernel
noncomputable def g_X9_moves_59 {d : Nat} : List zV → zH d → zP d → Bool := zsmy [(0, 0), (1, 33), (1, 3), (1, 4)] [zR 1, zI 5, zI 2] h0_X9_moves_59 (zU) h1_X9_moves_59
theorem mg_X9_moves_59 {d : Nat} : zMet (d := d) X_X9_moves yX9_moves 2 g_X9_moves_59 := zMet_sm m_X9_movesa ev_X9_moves_59
noncomputable def h0_X9_moves_60 : zH 2 := (show zT 2 from (((25, 63, bg_205), (0, 7, 0x100000000010000000001000000000100000000010000000001000000000100000000)), ((0, 66, bg_6), (0, 11, bg_13))), (4, (0, 0)))
noncomputable def h1_X9_moves_60 : zH 2 := (show zT 2 from (((25, 63, bg_205), (0, 7, 0x6000000000400000000050000000003000000000200000000010100000000)), ((0, 66, bg_6), (0, 11, bg_13))), (4, (0, 0)))
theorem ev_X9_moves_60 : f_X9_movesa [zR 1, zI 5, zI 3] h0_X9_moves_60 (zrk (zU) h1_X9_moves_60) = true := by decide +kernel
noncomputable def g_X9_moves_60 {d : Nat} : List zV → zH d → zP d → Bool := zsmy [(0, 0), (1, 33), (1, 3), (1, 4)] [zR 1, zI 5, zI 3] h0_X9_moves_60 (zU) h1_X9_moves_60
theorem mg_X9_moves_60 {d : Nat} : zMet (d := d) X_X9_moves yX9_moves 2 g_X9_moves_60 := zMet_sm m_X9_movesa ev_X9_moves_60
noncomputable def h0_X9_moves_61 : zH 2 := (show zT 2 from (((25, 63, bg_205), (0, 7, 0x100000000010000000001000000000100000000010000000001000000000100000000)), ((0, 66, bg_6), (0, 11, bg_13))), (4, (0, 0)))
noncomputable def h1_X9_moves_61 : zH 2 := (show zT 2 from (((25, 63, bg_205), (0, 7, 0x6000000000500000000040000000003000000000200000000010100000000)), ((0, 66, bg_6), (0, 11, bg_13))), (4, (0, 0)))
theorem ev_X9_moves_61 : f_X9_movesa [zR 1, zI 5, zI 6] h0_X9_moves_61 (zrk (zU) h1_X9_moves_61) = true := by decide +kernel
noncomputable def g_X9_moves_61 {d : Nat} : List zV → zH d → zP d → Bool := zsmy [(0, 0), (1, 33), (1, 3), (1, 4)] [zR 1, zI 5, zI 6] h0_X9_moves_61 (zU) h1_X9_moves_61
theorem mg_X9_moves_61 {d : Nat} : zMet (d := d) X_X9_moves yX9_moves 2 g_X9_moves_61 := zMet_sm m_X9_movesa ev_X9_moves_61
set_option maxRecDepth 100000 in
noncomputable def gs_X9_moves {d : Nat} : List zV → zH d → zP d → Bool := zwt (hsK (hsK (hsF 0 [] 0) (hsL 1)) (hsL 2)) [(2098178, g_X9_moves_0), (3147778, g_X9_moves_1), (3146754, g_X9_moves_2), (3146755, g_X9_moves_3), (4195330, g_X9_moves_4), (4195332, g_X9_moves_5), (4197378, g_X9_moves_6), (4196354, g_X9_moves_7), (4196355, g_X9_moves_8), (5244930, g_X9_moves_9), (5244932, g_X9_moves_10), (5248002, g_X9_moves_11), (5243906, g_X9_moves_12), (5243907, g_X9_moves_13), (5243909, g_X9_moves_14), (5245954, g_X9_moves_15), (5245955, g_X9_moves_16), (5246978, g_X9_moves_17), (5246979, g_X9_moves_18), (6292482, g_X9_moves_19), (6292486, g_X9_moves_20), (6295554, g_X9_moves_21), (6295556, g_X9_moves_22), (6298626, g_X9_moves_23), (6293506, g_X9_moves_24), (6293507, g_X9_moves_25), (6293509, g_X9_moves_26), (6296578, g_X9_moves_27), (6296579, g_X9_moves_28), (6297602, g_X9_moves_29), (6297603, g_X9_moves_30), (6294530, g_X9_moves_31), (6294531, g_X9_moves_32), (6294532, g_X9_moves_33), (6294535, g_X9_moves_34), (7342082, g_X9_moves_35), (7342086, g_X9_moves_36), (7345154, g_X9_moves_37), (7345156, g_X9_moves_38), (7347202, g_X9_moves_39), (7347204, g_X9_moves_40), (7351298, g_X9_moves_41), (7343106, g_X9_moves_42), (7343107, g_X9_moves_43), (7343109, g_X9_moves_44), (7344130, g_X9_moves_45), (7344131, g_X9_moves_46), (7344133, g_X9_moves_47), (7348226, g_X9_moves_48), (7348227, g_X9_moves_49), (7349250, g_X9_moves_50), (7349251, g_X9_moves_51), (7350274, g_X9_moves_52), (7350275, g_X9_moves_53), (7341058, g_X9_moves_54), (7341059, g_X9_moves_55), (7341060, g_X9_moves_56), (7341063, g_X9_moves_57), (7346178, g_X9_moves_58), (7346179, g_X9_moves_59), (7346180, g_X9_moves_60), (7346183, g_X9_moves_61)]
set_option maxRecDepth 100000 in
theorem mgs_X9_moves {d : Nat} : zMet (d := d) X_X9_moves yX9_moves 2 gs_X9_moves := zMet_wt (hsK_ok (hsK_ok hsF_ok hsL_ok) hsL_ok) (zwt_c mg_X9_moves_0 (zwt_c mg_X9_moves_1 (zwt_c mg_X9_moves_2 (zwt_c mg_X9_moves_3 (zwt_c mg_X9_moves_4 (zwt_c mg_X9_moves_5 (zwt_c mg_X9_moves_6 (zwt_c mg_X9_moves_7 (zwt_c mg_X9_moves_8 (zwt_c mg_X9_moves_9 (zwt_c mg_X9_moves_10 (zwt_c mg_X9_moves_11 (zwt_c mg_X9_moves_12 (zwt_c mg_X9_moves_13 (zwt_c mg_X9_moves_14 (zwt_c mg_X9_moves_15 (zwt_c mg_X9_moves_16 (zwt_c mg_X9_moves_17 (zwt_c mg_X9_moves_18 (zwt_c mg_X9_moves_19 (zwt_c mg_X9_moves_20 (zwt_c mg_X9_moves_21 (zwt_c mg_X9_moves_22 (zwt_c mg_X9_moves_23 (zwt_c mg_X9_moves_24 (zwt_c mg_X9_moves_25 (zwt_c mg_X9_moves_26 (zwt_c mg_X9_moves_27 (zwt_c mg_X9_moves_28 (zwt_c mg_X9_moves_29 (zwt_c mg_X9_moves_30 (zwt_c mg_X9_moves_31 (zwt_c mg_X9_moves_32 (zwt_c mg_X9_moves_33 (zwt_c mg_X9_moves_34 (zwt_c mg_X9_moves_35 (zwt_c mg_X9_moves_36 (zwt_c mg_X9_moves_37 (zwt_c mg_X9_moves_38 (zwt_c mg_X9_moves_39 (zwt_c mg_X9_moves_40 (zwt_c mg_X9_moves_41 (zwt_c mg_X9_moves_42 (zwt_c mg_X9_moves_43 (zwt_c mg_X9_moves_44 (zwt_c mg_X9_moves_45 (zwt_c mg_X9_moves_46 (zwt_c mg_X9_moves_47 (zwt_c mg_X9_moves_48 (zwt_c mg_X9_moves_49 (zwt_c mg_X9_moves_50 (zwt_c mg_X9_moves_51 (zwt_c mg_X9_moves_52 (zwt_c mg_X9_moves_53 (zwt_c mg_X9_moves_54 (zwt_c mg_X9_moves_55 (zwt_c mg_X9_moves_56 (zwt_c mg_X9_moves_57 (zwt_c mg_X9_moves_58 (zwt_c mg_X9_moves_59 (zwt_c mg_X9_moves_60 (zwt_c mg_X9_moves_61 zwt_n))))))))))))))))))))))))))))))))))))))))))))))))))))))))))))))
