/-! the class by summaries, by program -/
noncomputable def lX7_makeCharactersa_58 {d : Nat} (P : zP d) (r33 : zK d) (r58 : zK d) : zK d := (xild 4 (xald 0 (xgfI 23 1 (xcmpS tgeR rlGe rhS rlS rhLt (xincR 2 1 r33) (xald 0 (xgfR 23 12 (xild 1 (xaaT (xild 4 (xdup2 (xalQ 0 (xild 3 (xald 0 (xgfR 23 12 (xild 2 (xaaT (xild 4 (xalQ 0 (xbin zmulR (xbin zsubR (xasQ 0 (fun v => v) (xincR 4 1 r58))))))))))))))))))))))
set_option maxRecDepth 100000 in
set_option maxHeartbeats 4000000 in
theorem slX7_makeCharactersa_58 {d : Nat} [zGh] (P : zP d) (r33 : zK d) (r58 : zK d) (hr33 : zSimJ 1 X_X7_makeCharacters 2 P 33 r33) (hr58 : zSimJ 1 X_X7_makeCharacters 2 P 58 r58) : zSim X_X7_makeCharacters 2 P 58 (lX7_makeCharactersa_58 P r33 r58) := by
  unfold lX7_makeCharactersa_58
  refine sm_iload (pc := 58) (n := 4) dX7_makeCharacters_58 ?_
  refine sm_aload_n (pc := 60) (n := 0) dX7_makeCharacters_60 rfl ?_
  refine gf_X7_19 (pc := 61) rfl dX7_makeCharacters_61 ?_
  refine sm_icmpS_ge (pc := 64) (tgt := 96) dX7_makeCharacters_64 (by decide) ?_ ?_
  · skip
    refine sm_iincR (pc := 96) (n := 2) dX7_makeCharacters_96 zc_i_1 ?_
    refine sm_goto (pc := 99) (tgt := 33) dX7_makeCharacters_99 (by decide) ?_
    exact hr33.use
  · skip
    refine sm_aload_n (pc := 67) (n := 0) dX7_makeCharacters_67 rfl ?_
    refine gf_X7_64 (pc := 68) rfl dX7_makeCharacters_68 ?_
    refine sm_iload_n (pc := 71) (n := 1) dX7_makeCharacters_71 rfl ?_
    refine sm_aaloadT (pc := 72) dX7_makeCharacters_72 ?_
    refine sm_iload (pc := 73) (n := 4) dX7_makeCharacters_73 ?_
    refine sm_dup2 (pc := 75) dX7_makeCharacters_75 ?_
    refine sm_ialoadQ (pc := 76) dX7_makeCharacters_76 ?_
    refine sm_iload_n (pc := 77) (n := 3) dX7_makeCharacters_77 rfl ?_
    refine sm_aload_n (pc := 78) (n := 0) dX7_makeCharacters_78 rfl ?_
    refine gf_X7_64 (pc := 79) rfl dX7_makeCharacters_79 ?_
    refine sm_iload_n (pc := 82) (n := 2) dX7_makeCharacters_82 rfl ?_
    refine sm_aaloadT (pc := 83) dX7_makeCharacters_83 ?_
    refine sm_iload (pc := 84) (n := 4) dX7_makeCharacters_84 ?_
    refine sm_ialoadQ (pc := 86) dX7_makeCharacters_86 ?_
    refine sm_imulR (pc := 87) dX7_makeCharacters_87 ?_
    refine sm_isubR (pc := 88) dX7_makeCharacters_88 ?_
    refine sm_iastoreQ (pc := 89) dX7_makeCharacters_89 ?_
    refine sm_iincR (pc := 90) (n := 4) dX7_makeCharacters_90 zc_i_1 ?_
    refine sm_goto (pc := 93) (tgt := 58) dX7_makeCharacters_93 (by decide) ?_
    exact hr58.use
noncomputable def lX7_makeCharactersa_33 {d : Nat} (P : zP d) (r2 : zK d) (r33 : zK d) : zK d := (xild 2 (xild 1 (xcmpS tgeR rlGe rhS rlS rhLt (xincR 1 1 r2) (xald 0 (xald 0 (xgfR 23 11 (xild 1 (xaaT (xald 0 (xgfR 23 12 (xild 2 (xaaT (xcV 23 3 0 0 (zstr f_X7_timesIna) (xist 3 (xpI 0 (xist 4 (xloop (fun r58 => (lX7_makeCharactersa_58 P r33 r58)) 100000)))))))))))))))))
set_option maxRecDepth 100000 in
set_option maxHeartbeats 4000000 in
theorem slX7_makeCharactersa_33 {d : Nat} [zGh] (P : zP d) (r2 : zK d) (r33 : zK d) (hr2 : zSimJ 1 X_X7_makeCharacters 2 P 2 r2) (hr33 : zSimJ 1 X_X7_makeCharacters 2 P 33 r33) : zSim X_X7_makeCharacters 2 P 33 (lX7_makeCharactersa_33 P r2 r33) := by
  unfold lX7_makeCharactersa_33
  refine sm_iload_n (pc := 33) (n := 2) dX7_makeCharacters_33 rfl ?_
  refine sm_iload_n (pc := 34) (n := 1) dX7_makeCharacters_34 rfl ?_
  refine sm_icmpS_ge (pc := 35) (tgt := 102) dX7_makeCharacters_35 (by decide) ?_ ?_
  · skip
    refine sm_iincR (pc := 102) (n := 1) dX7_makeCharacters_102 zc_i_1 ?_
    refine sm_goto (pc := 105) (tgt := 2) dX7_makeCharacters_105 (by decide) ?_
    exact hr2.use
  · skip
    refine sm_aload_n (pc := 38) (n := 0) dX7_makeCharacters_38 rfl ?_
    refine sm_aload_n (pc := 39) (n := 0) dX7_makeCharacters_39 rfl ?_
    refine gf_X7_61 (pc := 40) rfl dX7_makeCharacters_40 ?_
    refine sm_iload_n (pc := 43) (n := 1) dX7_makeCharacters_43 rfl ?_
    refine sm_aaloadT (pc := 44) dX7_makeCharacters_44 ?_
    refine sm_aload_n (pc := 45) (n := 0) dX7_makeCharacters_45 rfl ?_
    refine gf_X7_64 (pc := 46) rfl dX7_makeCharacters_46 ?_
    refine sm_iload_n (pc := 49) (n := 2) dX7_makeCharacters_49 rfl ?_
    refine sm_aaloadT (pc := 50) dX7_makeCharacters_50 ?_
    refine sm_cV (pc := 51) (ci := 7) (n := 3) (mc := 0) (ms := 0) rfl (zMet_str m_X7_timesIna) (cr_X7_138 (X := X_X7_makeCharacters) (fr := 2) (frc := 1) (pc := 51) (mc := 0) (ms := 0) rfl (by decide) dX7_makeCharacters_51) ?_
    refine sm_istore_n (pc := 54) (n := 3) dX7_makeCharacters_54 rfl ?_
    refine sm_iconst (pc := 55) dX7_makeCharacters_55 zc_i_0 ?_
    refine sm_istore (pc := 56) (n := 4) dX7_makeCharacters_56 ?_
    exact (sm_loopJ (j := 1) (fun G1 hG1 r58 hr58 => @slX7_makeCharactersa_58 d G1 P r33 r58 (hr33.mv hG1 (by decide)) hr58) _).use
noncomputable def lX7_makeCharactersa_2 {d : Nat} (P : zP d) (r2 : zK d) : zK d := (xild 1 (xald 0 (xgfI 23 1 (xcmpS tgeR rlGe rhS rlS rhLt (xvret P) (xald 0 (xgfR 23 11 (xild 1 (xaaT (xpI 0 (xald 0 (xgfR 23 12 (xild 1 (xaaT (xpI 0 (xald 0 (xgfI 23 1 (xcpQ (xpI 0 (xist 2 (xloop (fun r33 => (lX7_makeCharactersa_33 P r2 r33)) 100000))))))))))))))))))))
set_option maxRecDepth 100000 in
set_option maxHeartbeats 4000000 in
theorem slX7_makeCharactersa_2 {d : Nat} [zGh] (P : zP d) (r2 : zK d) (hr2 : zSimJ 1 X_X7_makeCharacters 2 P 2 r2) : zSim X_X7_makeCharacters 2 P 2 (lX7_makeCharactersa_2 P r2) := by
  unfold lX7_makeCharactersa_2
  refine sm_iload_n (pc := 2) (n := 1) dX7_makeCharacters_2 rfl ?_
  refine sm_aload_n (pc := 3) (n := 0) dX7_makeCharacters_3 rfl ?_
  refine gf_X7_19 (pc := 4) rfl dX7_makeCharacters_4 ?_
  refine sm_icmpS_ge (pc := 7) (tgt := 108) dX7_makeCharacters_7 (by decide) ?_ ?_
  · skip
    exact sm_vreturn (pc := 108) dX7_makeCharacters_108 rfl
  · skip
    refine sm_aload_n (pc := 10) (n := 0) dX7_makeCharacters_10 rfl ?_
    refine gf_X7_61 (pc := 11) rfl dX7_makeCharacters_11 ?_
    refine sm_iload_n (pc := 14) (n := 1) dX7_makeCharacters_14 rfl ?_
    refine sm_aaloadT (pc := 15) dX7_makeCharacters_15 ?_
    refine sm_iconst (pc := 16) dX7_makeCharacters_16 zc_i_0 ?_
    refine sm_aload_n (pc := 17) (n := 0) dX7_makeCharacters_17 rfl ?_
    refine gf_X7_64 (pc := 18) rfl dX7_makeCharacters_18 ?_
    refine sm_iload_n (pc := 21) (n := 1) dX7_makeCharacters_21 rfl ?_
    refine sm_aaloadT (pc := 22) dX7_makeCharacters_22 ?_
    refine sm_iconst (pc := 23) dX7_makeCharacters_23 zc_i_0 ?_
    refine sm_aload_n (pc := 24) (n := 0) dX7_makeCharacters_24 rfl ?_
    refine gf_X7_19 (pc := 25) rfl dX7_makeCharacters_25 ?_
    refine sm_copyQ (pc := 28) wd_230 wd_80 wd_79 wd_7 (by decide) dX7_makeCharacters_28 ?_
    refine sm_iconst (pc := 31) dX7_makeCharacters_31 zc_i_0 ?_
    refine sm_istore_n (pc := 32) (n := 2) dX7_makeCharacters_32 rfl ?_
    exact (sm_loopJ (j := 1) (fun G1 hG1 r33 hr33 => @slX7_makeCharactersa_33 d G1 P r2 r33 (hr2.mv hG1 (by decide)) hr33) _).use
noncomputable def b_X7_makeCharactersa {d : Nat} (P : zP d) : zK d := (xpI 0 (xist 1 (xloop (fun r2 => (lX7_makeCharactersa_2 P r2)) 100000)))
set_option maxRecDepth 100000 in
set_option maxHeartbeats 4000000 in
theorem s_X7_makeCharactersa {d : Nat} [zGh] (P : zP d) : zSim X_X7_makeCharacters 2 P 0 (b_X7_makeCharactersa P) := by
  unfold b_X7_makeCharactersa
  refine sm_iconst (pc := 0) dX7_makeCharacters_0 zc_i_0 ?_
  refine sm_istore_n (pc := 1) (n := 1) dX7_makeCharacters_1 rfl ?_
  exact (sm_loopJ (j := 1) (fun G1 hG1 r2 hr2 => @slX7_makeCharactersa_2 d G1 P r2 hr2) _).use
noncomputable def f_X7_makeCharactersa {d : Nat} : List zV → zH d → zP d → Bool := zfn 5 b_X7_makeCharactersa
theorem m_X7_makeCharactersa {d : Nat} : zMet (d := d) X_X7_makeCharacters yX7_makeCharacters 2 f_X7_makeCharactersa := zmet_mk (X := X_X7_makeCharacters) (by decide) rfl rfl s_X7_makeCharactersa

noncomputable def h0_X7_makeCharacters_0 : zH 3 := (show zT 3 from ((((23, 14, 0x50000000003800000000b800000000a800000000980000000088000000007000000000280000000058000000004000000000100000000010000000001), (0, 1, 1)), ((3, 1, 4), (0, 1, 0x100000000))), (((3, 1, 6), (0, 1, 0)), zO1)), (6, (0, 0)))
noncomputable def h1_X7_makeCharacters_0 : zH 3 := (show zT 3 from ((((23, 14, 0x50000000003800000000b800000000a800000000980000000088000000007000000000280000000058000000004000000000100000000010000000001), (0, 1, 1)), ((3, 1, 4), (0, 1, 0x100000000))), (((3, 1, 6), (0, 1, 0x100000000)), zO1)), (6, (0, 0)))
theorem ev_X7_makeCharacters_0 : f_X7_makeCharactersa [zR 1] h0_X7_makeCharacters_0 (zrk (zU) h1_X7_makeCharacters_0) = true := by decide +kernel
noncomputable def g_X7_makeCharacters_0 {d : Nat} : List zV → zH d → zP d → Bool := zsmy [(0, 0), (1, 5), (1, 11), (3, 0), (1, 12), (5, 0)] [zR 1] h0_X7_makeCharacters_0 (zU) h1_X7_makeCharacters_0
theorem mg_X7_makeCharacters_0 {d : Nat} : zMet (d := d) X_X7_makeCharacters yX7_makeCharacters 2 g_X7_makeCharacters_0 := zMet_sm m_X7_makeCharactersa ev_X7_makeCharacters_0
noncomputable def h0_X7_makeCharacters_1 : zH 3 := (show zT 3 from ((((23, 14, 0x60000000003800000000b800000000a800000000980000000088000000007000000000280000000058000000004000000000200000000020000000002), (0, 2, 0x10000000001)), ((3, 2, 0x50000000004), (0, 2, 0x1000000000100000000))), (((0, 2, 0x1000000000100000000), (3, 2, 0x80000000007)), ((0, 2, 0), (0, 2, 0)))), (8, (0, 0)))
noncomputable def h1_X7_makeCharacters_1 : zH 3 := (show zT 3 from ((((23, 14, 0x60000000003800000000b800000000a800000000980000000088000000007000000000280000000058000000004000000000200000000020000000002), (0, 2, 0x10000000001)), ((3, 2, 0x50000000004), (0, 2, 0x1000000000100000000))), (((0, 2, 0x1000000000100000000), (3, 2, 0x80000000007)), ((0, 2, 0x1000000000100000000), (0, 2, 0x1000000000100000000)))), (8, (0, 0)))
theorem ev_X7_makeCharacters_1 : f_X7_makeCharactersa [zR 1] h0_X7_makeCharacters_1 (zrk (zU) h1_X7_makeCharacters_1) = true := by decide +kernel
noncomputable def g_X7_makeCharacters_1 {d : Nat} : List zV → zH d → zP d → Bool := zsmy [(0, 0), (1, 5), (1, 11), (3, 0), (3, 1), (1, 12), (6, 0), (6, 1)] [zR 1] h0_X7_makeCharacters_1 (zU) h1_X7_makeCharacters_1
theorem mg_X7_makeCharacters_1 {d : Nat} : zMet (d := d) X_X7_makeCharacters yX7_makeCharacters 2 g_X7_makeCharacters_1 := zMet_sm m_X7_makeCharactersa ev_X7_makeCharacters_1
noncomputable def h0_X7_makeCharacters_2 : zH 4 := (show zT 4 from (((((23, 14, 0x70000000003800000000b800000000a800000000980000000088000000007000000000280000000058000000004000000000600000000030000000003), (0, 3, 0x100000000030000000002)), ((3, 3, 0x600000000050000000004), (0, 3, 0x10000000001000000000100000000))), (((0, 3, 0x10000000001000000000100000000), (0, 3, 0x10000000001000000000100000000)), ((3, 3, 0xa00000000090000000008), (0, 3, 0)))), ((((0, 3, 0), (0, 3, 0)), zO1), zO2)), (10, (0, 0)))
noncomputable def h1_X7_makeCharacters_2 : zH 4 := (show zT 4 from (((((23, 14, 0x70000000003800000000b800000000a800000000980000000088000000007000000000280000000058000000004000000000600000000030000000003), (0, 3, 0x100000000030000000002)), ((3, 3, 0x600000000050000000004), (0, 3, 0x10000000001000000000100000000))), (((0, 3, 0x10000000001000000000100000000), (0, 3, 0x10000000001000000000100000000)), ((3, 3, 0xa00000000090000000008), (0, 3, 0x10000000001000000000100000000)))), ((((0, 3, 0x10000000001000000000100000000), (0, 3, 0x10000000001000000000100000000)), zO1), zO2)), (10, (0, 0)))
theorem ev_X7_makeCharacters_2 : f_X7_makeCharactersa [zR 1] h0_X7_makeCharacters_2 (zrk (zU) h1_X7_makeCharacters_2) = true := by decide +kernel
noncomputable def g_X7_makeCharacters_2 {d : Nat} : List zV → zH d → zP d → Bool := zsmy [(0, 0), (1, 5), (1, 11), (3, 0), (3, 1), (3, 2), (1, 12), (7, 0), (7, 1), (7, 2)] [zR 1] h0_X7_makeCharacters_2 (zU) h1_X7_makeCharacters_2
theorem mg_X7_makeCharacters_2 {d : Nat} : zMet (d := d) X_X7_makeCharacters yX7_makeCharacters 2 g_X7_makeCharacters_2 := zMet_sm m_X7_makeCharactersa ev_X7_makeCharacters_2
noncomputable def h0_X7_makeCharacters_3 : zH 4 := (show zT 4 from (((((23, 14, 0x90000000003800000000b800000000a800000000980000000088000000007000000000280000000058000000004000000001800000000050000000004), (0, 5, 0x10000000006000000000300000000080000000006)), ((3, 5, 0x80000000007000000000600000000050000000004), (0, 5, 0x1000000000100000000010000000001000000000100000000))), (((0, 5, 0x1000000000100000000010000000001000000000100000000), (0, 5, 0x1000000000100000000010000000001000000000100000000)), ((0, 5, 0x1000000000100000000010000000001000000000100000000), (0, 5, 0x1000000000100000000010000000001000000000100000000)))), ((((3, 5, 0xe000000000d000000000c000000000b000000000a), (0, 5, 0)), ((0, 5, 0), (0, 5, 0))), (((0, 5, 0), (0, 5, 0)), zO1))), (14, (0, 0)))
noncomputable def h1_X7_makeCharacters_3 : zH 4 := (show zT 4 from (((((23, 14, 0x90000000003800000000b800000000a800000000980000000088000000007000000000280000000058000000004000000001800000000050000000004), (0, 5, 0x10000000006000000000300000000080000000006)), ((3, 5, 0x80000000007000000000600000000050000000004), (0, 5, 0x1000000000100000000010000000001000000000100000000))), (((0, 5, 0x1000000000100000000010000000001000000000100000000), (0, 5, 0x1000000000100000000010000000001000000000100000000)), ((0, 5, 0x1000000000100000000010000000001000000000100000000), (0, 5, 0x1000000000100000000010000000001000000000100000000)))), ((((3, 5, 0xe000000000d000000000c000000000b000000000a), (0, 5, 0x1000000000100000000010000000001000000000100000000)), ((0, 5, 0x1000000000100000000010000000001000000000100000000), (0, 5, 0x1000000000100000000010000000001000000000100000000))), (((0, 5, 0x1000000000100000000010000000001000000000100000000), (0, 5, 0x1000000000100000000010000000001000000000100000000)), zO1))), (14, (0, 0)))
theorem ev_X7_makeCharacters_3 : f_X7_makeCharactersa [zR 1] h0_X7_makeCharacters_3 (zrk (zU) h1_X7_makeCharacters_3) = true := by decide +kernel
noncomputable def g_X7_makeCharacters_3 {d : Nat} : List zV → zH d → zP d → Bool := zsmy [(0, 0), (1, 5), (1, 11), (3, 0), (3, 1), (3, 2), (3, 3), (3, 4), (1, 12), (9, 0), (9, 1), (9, 2), (9, 3), (9, 4)] [zR 1] h0_X7_makeCharacters_3 (zU) h1_X7_makeCharacters_3
theorem mg_X7_makeCharacters_3 {d : Nat} : zMet (d := d) X_X7_makeCharacters yX7_makeCharacters 2 g_X7_makeCharacters_3 := zMet_sm m_X7_makeCharactersa ev_X7_makeCharacters_3
noncomputable def h0_X7_makeCharacters_4 : zH 5 := (show zT 5 from ((((((23, 14, 0xb0000000003800000000b800000000a800000000980000000088000000007000000000280000000058000000004000000007800000000070000000005), (0, 7, 0x1000000000a000000000f00000000140000000014000000001e0000000018)), ((3, 7, 0xa000000000900000000080000000007000000000600000000050000000004), (0, 7, 0x100000000010000000001000000000100000000010000000001000000000100000000))), (((0, 7, 0x100000000010000000001000000000100000000010000000001000000000100000000), (0, 7, 0x100000000010000000001000000000100000000010000000001000000000100000000)), ((0, 7, 0x100000000010000000001000000000100000000010000000001000000000100000000), (0, 7, 0x100000000010000000001000000000100000000010000000001000000000100000000)))), ((((0, 7, 0x100000000010000000001000000000100000000010000000001000000000100000000), (0, 7, 0x100000000010000000001000000000100000000010000000001000000000100000000)), ((3, 7, 0x1200000000110000000010000000000f000000000e000000000d000000000c), (0, 7, 0))), (((0, 7, 0), (0, 7, 0)), ((0, 7, 0), (0, 7, 0))))), (((((0, 7, 0), (0, 7, 0)), zO1), zO2), zO3)), (18, (0, 0)))
noncomputable def h1_X7_makeCharacters_4 : zH 5 := (show zT 5 from ((((((23, 14, 0xb0000000003800000000b800000000a800000000980000000088000000007000000000280000000058000000004000000007800000000070000000005), (0, 7, 0x1000000000a000000000f00000000140000000014000000001e0000000018)), ((3, 7, 0xa000000000900000000080000000007000000000600000000050000000004), (0, 7, 0x100000000010000000001000000000100000000010000000001000000000100000000))), (((0, 7, 0x100000000010000000001000000000100000000010000000001000000000100000000), (0, 7, 0x100000000010000000001000000000100000000010000000001000000000100000000)), ((0, 7, 0x100000000010000000001000000000100000000010000000001000000000100000000), (0, 7, 0x100000000010000000001000000000100000000010000000001000000000100000000)))), ((((0, 7, 0x100000000010000000001000000000100000000010000000001000000000100000000), (0, 7, 0x100000000010000000001000000000100000000010000000001000000000100000000)), ((3, 7, 0x1200000000110000000010000000000f000000000e000000000d000000000c), (0, 7, 0x100000000010000000001000000000100000000010000000001000000000100000000))), (((0, 7, 0x100000000010000000001000000000100000000010000000001000000000100000000), (0, 7, 0x100000000010000000001000000000100000000010000000001000000000100000000)), ((0, 7, 0x100000000010000000001000000000100000000010000000001000000000100000000), (0, 7, 0x100000000010000000001000000000100000000010000000001000000000100000000))))), (((((0, 7, 0x100000000010000000001000000000100000000010000000001000000000100000000), (0, 7, 0x100000000010000000001000000000100000000010000000001000000000100000000)), zO1), zO2), zO3)), (18, (0, 0)))
theorem ev_X7_makeCharacters_4 : f_X7_makeCharactersa [zR 1] h0_X7_makeCharacters_4 (zrk (zU) h1_X7_makeCharacters_4) = true := by decide +kernel
noncomputable def g_X7_makeCharacters_4 {d : Nat} : List zV → zH d → zP d → Bool := zsmy [(0, 0), (1, 5), (1, 11), (3, 0), (3, 1), (3, 2), (3, 3), (3, 4), (3, 5), (3, 6), (1, 12), (11, 0), (11, 1), (11, 2), (11, 3), (11, 4), (11, 5), (11, 6)] [zR 1] h0_X7_makeCharacters_4 (zU) h1_X7_makeCharacters_4
theorem mg_X7_makeCharacters_4 {d : Nat} : zMet (d := d) X_X7_makeCharacters yX7_makeCharacters 2 g_X7_makeCharacters_4 := zMet_sm m_X7_makeCharactersa ev_X7_makeCharacters_4
noncomputable def h0_X7_makeCharacters_5 : zH 5 := (show zT 5 from ((((((23, 14, 0xf0000000003800000000b800000000a80000000098000000008800000000700000000028000000005800000000400000002d0000000000b0000000006), (0, 11, 0x1000000000f000000002d000000000f000000002800000000780000000028000000005a000000005a00000000900000000078)), ((3, 11, 0xe000000000d000000000c000000000b000000000a000000000900000000080000000007000000000600000000050000000004), (0, 11, zun 40 11 4294967296))), (((0, 11, zun 40 11 4294967296), (0, 11, zun 40 11 4294967296)), ((0, 11, zun 40 11 4294967296), (0, 11, zun 40 11 4294967296)))), ((((0, 11, zun 40 11 4294967296), (0, 11, zun 40 11 4294967296)), ((0, 11, zun 40 11 4294967296), (0, 11, zun 40 11 4294967296))), (((0, 11, zun 40 11 4294967296), (0, 11, zun 40 11 4294967296)), ((3, 11, 0x1a0000000019000000001800000000170000000016000000001500000000140000000013000000001200000000110000000010), (0, 11, 0))))), (((((0, 11, 0), (0, 11, 0)), ((0, 11, 0), (0, 11, 0))), (((0, 11, 0), (0, 11, 0)), ((0, 11, 0), (0, 11, 0)))), ((((0, 11, 0), (0, 11, 0)), zO1), zO2))), (26, (0, 0)))
noncomputable def h1_X7_makeCharacters_5 : zH 5 := (show zT 5 from ((((((23, 14, 0xf0000000003800000000b800000000a80000000098000000008800000000700000000028000000005800000000400000002d0000000000b0000000006), (0, 11, 0x1000000000f000000002d000000000f000000002800000000780000000028000000005a000000005a00000000900000000078)), ((3, 11, 0xe000000000d000000000c000000000b000000000a000000000900000000080000000007000000000600000000050000000004), (0, 11, zun 40 11 4294967296))), (((0, 11, zun 40 11 4294967296), (0, 11, zun 40 11 4294967296)), ((0, 11, zun 40 11 4294967296), (0, 11, zun 40 11 4294967296)))), ((((0, 11, zun 40 11 4294967296), (0, 11, zun 40 11 4294967296)), ((0, 11, zun 40 11 4294967296), (0, 11, zun 40 11 4294967296))), (((0, 11, zun 40 11 4294967296), (0, 11, zun 40 11 4294967296)), ((3, 11, 0x1a0000000019000000001800000000170000000016000000001500000000140000000013000000001200000000110000000010), (0, 11, zun 40 11 4294967296))))), (((((0, 11, zun 40 11 4294967296), (0, 11, zun 40 11 4294967296)), ((0, 11, zun 40 11 4294967296), (0, 11, zun 40 11 4294967296))), (((0, 11, zun 40 11 4294967296), (0, 11, zun 40 11 4294967296)), ((0, 11, zun 40 11 4294967296), (0, 11, zun 40 11 4294967296)))), ((((0, 11, zun 40 11 4294967296), (0, 11, zun 40 11 4294967296)), zO1), zO2))), (26, (0, 0)))
theorem ev_X7_makeCharacters_5 : f_X7_makeCharactersa [zR 1] h0_X7_makeCharacters_5 (zrk (zU) h1_X7_makeCharacters_5) = true := by decide +kernel
noncomputable def g_X7_makeCharacters_5 {d : Nat} : List zV → zH d → zP d → Bool := zsmy [(0, 0), (1, 5), (1, 11), (3, 0), (3, 1), (3, 2), (3, 3), (3, 4), (3, 5), (3, 6), (3, 7), (3, 8), (3, 9), (3, 10), (1, 12), (15, 0), (15, 1), (15, 2), (15, 3), (15, 4), (15, 5), (15, 6), (15, 7), (15, 8), (15, 9), (15, 10)] [zR 1] h0_X7_makeCharacters_5 (zU) h1_X7_makeCharacters_5
theorem mg_X7_makeCharacters_5 {d : Nat} : zMet (d := d) X_X7_makeCharacters yX7_makeCharacters 2 g_X7_makeCharacters_5 := zMet_sm m_X7_makeCharactersa ev_X7_makeCharacters_5
noncomputable def g_X7_makeCharacters {d : Nat} : List zV → zH d → zP d → Bool := (zor2 g_X7_makeCharacters_0 (zor2 g_X7_makeCharacters_1 (zor2 g_X7_makeCharacters_2 (zor2 g_X7_makeCharacters_3 (zor2 g_X7_makeCharacters_4 (zor2 g_X7_makeCharacters_5 (fun _ _ _ => false)))))))
theorem mg_X7_makeCharacters {d : Nat} : zMet (d := d) X_X7_makeCharacters yX7_makeCharacters 2 g_X7_makeCharacters := (zMet_or mg_X7_makeCharacters_0 (zMet_or mg_X7_makeCharacters_1 (zMet_or mg_X7_makeCharacters_2 (zMet_or mg_X7_makeCharacters_3 (zMet_or mg_X7_makeCharacters_4 (zMet_or mg_X7_makeCharacters_5 zfalse))))))
