section
/-! the class by summaries, by program -/
noncomputable def cX4_inita_173 {d : Nat} (P : zP d) : zK d := (xgfI 20 5 (xald 0 (xgfI 20 5 (xmnaD 3 0 (xpfR 20 7 (xvret P))))))
set_option maxRecDepth 100000 in
set_option maxHeartbeats 4000000 in
theorem scX4_inita_173 {d : Nat} [zGh] (P : zP d) : zSim X_X4_init 10 P 173 (cX4_inita_173 P) := by
  unfold cX4_inita_173
  refine gf_X4_39 (pc := 173) rfl dX4_init_173 ?_
  refine sm_aload_n (pc := 176) (n := 0) dX4_init_176 rfl ?_
  refine gf_X4_39 (pc := 177) rfl dX4_init_177 ?_
  refine sm_mnaDI (pc := 180) wd_96 wd_46 dX4_init_180 ?_
  refine pf_X4_89 (pc := 184) rfl rfl dX4_init_184 ?_
  exact sm_vreturn (pc := 187) dX4_init_187 rfl
noncomputable def cX4_inita_131 {d : Nat} (P : zP d) : zK d := (xpI 0 (xcS 2 0 0 (zstr f_J7_fill_53178) (xald 0 (xpI 0 (xpI 0 (xpI 1 (xcV 20 4 0 0 (zstr g_X4_fillWays) (xald 0 (xild 3 (xpI 1 (xbin zaddR (xnwa 0 (xpfR 20 12 (xald 0 (xcV 20 1 0 0 (zstr f_X4_weighNumbers) (xald 0 (xald 0 (xgfI 20 5 (xald 0 (xgfI 20 8 (xmnaD 3 0 (xpfR 20 11 (xald 0 (xald 0 (cX4_inita_173 P)))))))))))))))))))))))))
set_option maxRecDepth 100000 in
set_option maxHeartbeats 4000000 in
theorem scX4_inita_131 {d : Nat} [zGh] (P : zP d) : zSim X_X4_init 10 P 131 (cX4_inita_131 P) := by
  unfold cX4_inita_131
  refine sm_iconst (pc := 131) dX4_init_131 zc_i_0 ?_
  refine sm_cS (pc := 132) (n := 2) (mc := 0) (ms := 0) (zMet_str m_J7_fill_53178) (cr_X4_72 (X := X_X4_init) (fr := 10) (frc := 1) (pc := 132) (mc := 0) (ms := 0) rfl (by decide) dX4_init_132) ?_
  refine sm_aload_n (pc := 135) (n := 0) dX4_init_135 rfl ?_
  refine sm_iconst (pc := 136) dX4_init_136 zc_i_0 ?_
  refine sm_iconst (pc := 137) dX4_init_137 zc_i_0 ?_
  refine sm_iconst (pc := 138) dX4_init_138 zc_i_1 ?_
  refine sm_cV (pc := 139) (ci := 4) (n := 4) (mc := 0) (ms := 0) rfl (zMet_str mg_X4_fillWays) (cr_X4_76 (X := X_X4_init) (fr := 10) (frc := 9) (pc := 139) (mc := 0) (ms := 0) rfl (by decide) dX4_init_139) ?_
  refine sm_aload_n (pc := 142) (n := 0) dX4_init_142 rfl ?_
  refine sm_iload_n (pc := 143) (n := 3) dX4_init_143 rfl ?_
  refine sm_iconst (pc := 144) dX4_init_144 zc_i_1 ?_
  refine sm_iaddR (pc := 145) dX4_init_145 ?_
  refine sm_newI (pc := 146) dX4_init_146 wd_46 ?_
  refine pf_X4_80 (pc := 148) rfl rfl dX4_init_148 ?_
  refine sm_aload_n (pc := 151) (n := 0) dX4_init_151 rfl ?_
  refine sm_cV (pc := 152) (ci := 4) (n := 1) (mc := 0) (ms := 0) rfl (zMet_str m_X4_weighNumbers) (cr_X4_83 (X := X_X4_init) (fr := 10) (frc := 1) (pc := 152) (mc := 0) (ms := 0) rfl (by decide) dX4_init_152) ?_
  refine sm_aload_n (pc := 155) (n := 0) dX4_init_155 rfl ?_
  refine sm_aload_n (pc := 156) (n := 0) dX4_init_156 rfl ?_
  refine gf_X4_39 (pc := 157) rfl dX4_init_157 ?_
  refine sm_aload_n (pc := 160) (n := 0) dX4_init_160 rfl ?_
  refine gf_X4_60 (pc := 161) rfl dX4_init_161 ?_
  refine sm_mnaDI (pc := 164) wd_96 wd_46 dX4_init_164 ?_
  refine pf_X4_86 (pc := 168) rfl rfl dX4_init_168 ?_
  refine sm_aload_n (pc := 171) (n := 0) dX4_init_171 rfl ?_
  refine sm_aload_n (pc := 172) (n := 0) dX4_init_172 rfl ?_
  exact scX4_inita_173 P
noncomputable def cX4_inita_87 {d : Nat} (P : zP d) : zK d := (xpI 0 (xpI 0 (xcV 20 3 0 0 (zstr f_X4_fillTableaux) (xald 0 (xald 0 (xcV 20 1 0 0 (zstr f_X4_countWays) (xpfI 20 8 (xald 0 (xald 0 (xgfI 20 8 (xild 3 (xbin zmulR (xnwa 0 (xpfR 20 9 (xald 0 (xald 0 (xgfI 20 8 (xnwa 0 (xpfR 20 10 (xald 0 (xpI 0 (xpfI 20 13 (xald 0 (xgfR 20 15 (cX4_inita_131 P)))))))))))))))))))))))))
set_option maxRecDepth 100000 in
set_option maxHeartbeats 4000000 in
theorem scX4_inita_87 {d : Nat} [zGh] (P : zP d) : zSim X_X4_init 10 P 87 (cX4_inita_87 P) := by
  unfold cX4_inita_87
  refine sm_iconst (pc := 87) dX4_init_87 zc_i_0 ?_
  refine sm_iconst (pc := 88) dX4_init_88 zc_i_0 ?_
  refine sm_cV (pc := 89) (ci := 4) (n := 3) (mc := 0) (ms := 0) rfl (zMet_str m_X4_fillTableaux) (cr_X4_53 (X := X_X4_init) (fr := 10) (frc := 9) (pc := 89) (mc := 0) (ms := 0) rfl (by decide) dX4_init_89) ?_
  refine sm_aload_n (pc := 92) (n := 0) dX4_init_92 rfl ?_
  refine sm_aload_n (pc := 93) (n := 0) dX4_init_93 rfl ?_
  refine sm_cV (pc := 94) (ci := 4) (n := 1) (mc := 0) (ms := 0) rfl (zMet_str m_X4_countWays) (cr_X4_57 (X := X_X4_init) (fr := 10) (frc := 2) (pc := 94) (mc := 0) (ms := 0) rfl (by decide) dX4_init_94) ?_
  refine pf_X4_60 (pc := 97) rfl rfl dX4_init_97 ?_
  refine sm_aload_n (pc := 100) (n := 0) dX4_init_100 rfl ?_
  refine sm_aload_n (pc := 101) (n := 0) dX4_init_101 rfl ?_
  refine gf_X4_60 (pc := 102) rfl dX4_init_102 ?_
  refine sm_iload_n (pc := 105) (n := 3) dX4_init_105 rfl ?_
  refine sm_imulR (pc := 106) dX4_init_106 ?_
  refine sm_newI (pc := 107) dX4_init_107 wd_46 ?_
  refine pf_X4_63 (pc := 109) rfl rfl dX4_init_109 ?_
  refine sm_aload_n (pc := 112) (n := 0) dX4_init_112 rfl ?_
  refine sm_aload_n (pc := 113) (n := 0) dX4_init_113 rfl ?_
  refine gf_X4_60 (pc := 114) rfl dX4_init_114 ?_
  refine sm_newI (pc := 117) dX4_init_117 wd_46 ?_
  refine pf_X4_66 (pc := 119) rfl rfl dX4_init_119 ?_
  refine sm_aload_n (pc := 122) (n := 0) dX4_init_122 rfl ?_
  refine sm_iconst (pc := 123) dX4_init_123 zc_i_0 ?_
  refine pf_X4_69 (pc := 124) rfl dX4_init_124 ?_
  refine sm_aload_n (pc := 127) (n := 0) dX4_init_127 rfl ?_
  refine gf_X4_45 (pc := 128) rfl dX4_init_128 ?_
  exact scX4_inita_131 P
noncomputable def cX4_inita_42 {d : Nat} (P : zP d) : zK d := (xpfR 20 4 (xald 0 (xcV 20 1 0 0 (zstr f_X4_layOut) (xald 0 (xald 0 (xcV 20 1 0 0 (zstr f_X4_countTableaux) (xpfI 20 5 (xald 0 (xild 3 (xnwa 0 (xpfR 20 14 (xald 0 (xild 3 (xpI 1 (xbin zaddR (xnwa 0 (xpfR 20 15 (xald 0 (xald 0 (xgfI 20 5 (xild 3 (xmnaD 3 0 (xpfR 20 6 (xald 0 (cX4_inita_87 P)))))))))))))))))))))))))
set_option maxRecDepth 100000 in
set_option maxHeartbeats 4000000 in
theorem scX4_inita_42 {d : Nat} [zGh] (P : zP d) : zSim X_X4_init 10 P 42 (cX4_inita_42 P) := by
  unfold cX4_inita_42
  refine pf_X4_29 (pc := 42) rfl rfl dX4_init_42 ?_
  refine sm_aload_n (pc := 45) (n := 0) dX4_init_45 rfl ?_
  refine sm_cV (pc := 46) (ci := 4) (n := 1) (mc := 0) (ms := 0) rfl (zMet_str m_X4_layOut) (cr_X4_32 (X := X_X4_init) (fr := 10) (frc := 1) (pc := 46) (mc := 0) (ms := 0) rfl (by decide) dX4_init_46) ?_
  refine sm_aload_n (pc := 49) (n := 0) dX4_init_49 rfl ?_
  refine sm_aload_n (pc := 50) (n := 0) dX4_init_50 rfl ?_
  refine sm_cV (pc := 51) (ci := 4) (n := 1) (mc := 0) (ms := 0) rfl (zMet_str m_X4_countTableaux) (cr_X4_35 (X := X_X4_init) (fr := 10) (frc := 2) (pc := 51) (mc := 0) (ms := 0) rfl (by decide) dX4_init_51) ?_
  refine pf_X4_39 (pc := 54) rfl rfl dX4_init_54 ?_
  refine sm_aload_n (pc := 57) (n := 0) dX4_init_57 rfl ?_
  refine sm_iload_n (pc := 58) (n := 3) dX4_init_58 rfl ?_
  refine sm_newI (pc := 59) dX4_init_59 wd_46 ?_
  refine pf_X4_42 (pc := 61) rfl rfl dX4_init_61 ?_
  refine sm_aload_n (pc := 64) (n := 0) dX4_init_64 rfl ?_
  refine sm_iload_n (pc := 65) (n := 3) dX4_init_65 rfl ?_
  refine sm_iconst (pc := 66) dX4_init_66 zc_i_1 ?_
  refine sm_iaddR (pc := 67) dX4_init_67 ?_
  refine sm_newI (pc := 68) dX4_init_68 wd_46 ?_
  refine pf_X4_45 (pc := 70) rfl rfl dX4_init_70 ?_
  refine sm_aload_n (pc := 73) (n := 0) dX4_init_73 rfl ?_
  refine sm_aload_n (pc := 74) (n := 0) dX4_init_74 rfl ?_
  refine gf_X4_39 (pc := 75) rfl dX4_init_75 ?_
  refine sm_iload_n (pc := 78) (n := 3) dX4_init_78 rfl ?_
  refine sm_mnaDI (pc := 79) wd_96 wd_46 dX4_init_79 ?_
  refine pf_X4_50 (pc := 83) rfl rfl dX4_init_83 ?_
  refine sm_aload_n (pc := 86) (n := 0) dX4_init_86 rfl ?_
  exact scX4_inita_87 P
noncomputable def b_X4_inita {d : Nat} (P : zP d) : zK d := (xald 0 (xobj (xald 0 (xild 3 (xpfI 20 0 (xald 0 (xild 2 (xpfI 20 1 (xald 0 (xald 1 (xild 2 (xcS 2 1 10 (zstr f_J7_copyOf_59c91) (xpfR 20 2 (xald 0 (xald 0 (xgfR 20 2 (xpI 0 (xalQ 0 (xnwa 0 (xpfR 20 3 (xald 0 (xald 0 (xgfI 20 1 (xnwa 0 (cX4_inita_42 P)))))))))))))))))))))))))
set_option maxRecDepth 100000 in
set_option maxHeartbeats 4000000 in
theorem s_X4_inita {d : Nat} [zGh] (P : zP d) : zSim X_X4_init 10 P 0 (b_X4_inita P) := by
  unfold b_X4_inita
  refine sm_aload_n (pc := 0) (n := 0) dX4_init_0 rfl ?_
  refine sm_objinit (pc := 1) wd_64 wd_21 wd_22 (by decide) dX4_init_1 ?_
  refine sm_aload_n (pc := 4) (n := 0) dX4_init_4 rfl ?_
  refine sm_iload_n (pc := 5) (n := 3) dX4_init_5 rfl ?_
  refine pf_X4_7 (pc := 6) rfl rfl dX4_init_6 ?_
  refine sm_aload_n (pc := 9) (n := 0) dX4_init_9 rfl ?_
  refine sm_iload_n (pc := 10) (n := 2) dX4_init_10 rfl ?_
  refine pf_X4_13 (pc := 11) rfl rfl dX4_init_11 ?_
  refine sm_aload_n (pc := 14) (n := 0) dX4_init_14 rfl ?_
  refine sm_aload_n (pc := 15) (n := 1) dX4_init_15 rfl ?_
  refine sm_iload_n (pc := 16) (n := 2) dX4_init_16 rfl ?_
  refine sm_cS (pc := 17) (n := 2) (mc := 1) (ms := 10) (zMet_str m_J7_copyOf_59c91) (cr_X4_16 (X := X_X4_init) (fr := 10) (frc := 1) (pc := 17) (mc := 1) (ms := 10) rfl (by decide) dX4_init_17) ?_
  refine pf_X4_22 (pc := 20) rfl rfl dX4_init_20 ?_
  refine sm_aload_n (pc := 23) (n := 0) dX4_init_23 rfl ?_
  refine sm_aload_n (pc := 24) (n := 0) dX4_init_24 rfl ?_
  refine gf_X4_22 (pc := 25) rfl dX4_init_25 ?_
  refine sm_iconst (pc := 28) dX4_init_28 zc_i_0 ?_
  refine sm_ialoadQ (pc := 29) dX4_init_29 ?_
  refine sm_newI (pc := 30) dX4_init_30 wd_46 ?_
  refine pf_X4_26 (pc := 32) rfl rfl dX4_init_32 ?_
  refine sm_aload_n (pc := 35) (n := 0) dX4_init_35 rfl ?_
  refine sm_aload_n (pc := 36) (n := 0) dX4_init_36 rfl ?_
  refine gf_X4_13 (pc := 37) rfl dX4_init_37 ?_
  refine sm_newI (pc := 40) dX4_init_40 wd_46 ?_
  exact scX4_inita_42 P
noncomputable def f_X4_inita {d : Nat} : List zV → zH d → zP d → Bool := zfn 4 b_X4_inita
theorem m_X4_inita {d : Nat} : zMet (d := d) X_X4_init yX4_init 10 f_X4_inita := zmet_mk (X := X_X4_init) (by decide) rfl rfl s_X4_inita

noncomputable def h0_X4_init_0 : zH 4 := (show zT 4 from (((((20, 16, 0), (0, 1, 1)), zO1), zO2), zO3), (2, (64, 6000)))
noncomputable def h1_X4_init_0 : zH 4 := (show zT 4 from (((((20, 16, 0x700000000060100000002000000000c000000000d000000000b000000000a0000000001000000000f0000000008000000000100000000050000000004000000000300000000010000000001), (0, 1, 1)), ((0, 1, 1), (0, 1, 1))), (((0, 1, 0), (0, 1, 0x100000007)), ((0, 2, 0x1000000000100000000), (3, 1, 9)))), ((((0, 1, 1), (0, 1, 0x100000001)), ((0, 1, 0x100000000), (0, 2, 0))), (((3, 1, 0xe), (0, 1, 0)), ((3, 1, 0x10), (0, 1, 0))))), (16, (0, 0)))
theorem ev_X4_init_0 : f_X4_inita [zR 1, zR 2, zI 1, zI 1] h0_X4_init_0 (zrk (zU) h1_X4_init_0) = true := by decide +kernel
noncomputable def g_X4_init_0 {d : Nat} : List zV → zH d → zP d → Bool := zsmy [(0, 0), (0, 1)] [zR 1, zR 2, zI 1, zI 1] h0_X4_init_0 (zU) h1_X4_init_0
theorem mg_X4_init_0 {d : Nat} : zMet (d := d) X_X4_init yX4_init 10 g_X4_init_0 := zMet_sm m_X4_inita ev_X4_init_0
noncomputable def h0_X4_init_1 : zH 4 := (show zT 4 from (((((20, 16, 0), (0, 2, 2)), zO1), zO2), zO3), (2, (64, 6000)))
noncomputable def h1_X4_init_1 : zH 4 := (show zT 4 from (((((20, 16, 0x700000000060100000002000000000c000000000d000000000b000000000a0000000001000000000f0000000008000000000100000000050000000004000000000300000000010000000002), (0, 2, 2)), ((0, 1, 2), (0, 2, 0x10000000001))), (((0, 1, 0), (0, 2, 0x1000000070100000007)), ((0, 3, 0x10000000001000000000100000000), (3, 1, 9)))), ((((0, 2, 0x20000000001), (0, 2, 0x1000000010100000001)), ((0, 1, 0x100000000), (0, 3, 0x10000000000))), (((3, 1, 0xe), (0, 1, 0)), ((3, 1, 0x10), (0, 1, 0))))), (16, (0, 0)))
theorem ev_X4_init_1 : f_X4_inita [zR 1, zR 2, zI 1, zI 2] h0_X4_init_1 (zrk (zU) h1_X4_init_1) = true := by decide +kernel
noncomputable def g_X4_init_1 {d : Nat} : List zV → zH d → zP d → Bool := zsmy [(0, 0), (0, 1)] [zR 1, zR 2, zI 1, zI 2] h0_X4_init_1 (zU) h1_X4_init_1
theorem mg_X4_init_1 {d : Nat} : zMet (d := d) X_X4_init yX4_init 10 g_X4_init_1 := zMet_sm m_X4_inita ev_X4_init_1
noncomputable def h0_X4_init_2 : zH 4 := (show zT 4 from (((((20, 16, 0), (0, 2, 0x10000000001)), zO1), zO2), zO3), (2, (64, 6000)))
noncomputable def h1_X4_init_2 : zH 4 := (show zT 4 from (((((20, 16, 0x700000000060100000003000000000c000000000d000000000b000000000a0000000002000000000f0000000008000000000100000000050000000004000000000300000000020000000002), (0, 2, 0x10000000001)), ((0, 2, 0x10000000001), (0, 1, 2))), (((0, 2, 0x10000000000), (0, 2, 0x1000000070100000007)), ((0, 3, 0x10000000001000000000100000000), (3, 1, 9)))), ((((0, 2, 0x20000000001), (0, 4, 0x100000002010000000201000000020100000002)), ((0, 2, 0x1000000000100000000), (0, 3, 0x10000000000))), (((3, 1, 0xe), (0, 2, 0)), ((3, 1, 0x10), (0, 1, 0))))), (16, (0, 0)))
theorem ev_X4_init_2 : f_X4_inita [zR 1, zR 2, zI 2, zI 2] h0_X4_init_2 (zrk (zU) h1_X4_init_2) = true := by decide +kernel
noncomputable def g_X4_init_2 {d : Nat} : List zV → zH d → zP d → Bool := zsmy [(0, 0), (0, 1)] [zR 1, zR 2, zI 2, zI 2] h0_X4_init_2 (zU) h1_X4_init_2
theorem mg_X4_init_2 {d : Nat} : zMet (d := d) X_X4_init yX4_init 10 g_X4_init_2 := zMet_sm m_X4_inita ev_X4_init_2
noncomputable def h0_X4_init_3 : zH 4 := (show zT 4 from (((((20, 16, 0), (0, 3, 3)), zO1), zO2), zO3), (2, (64, 6000)))
noncomputable def zk_99_zs1_61_X4_init_0 : zT 1 := @Prod.mk (zT 0) (zT 0) (0, 4, 0x100000000010000000001000000000100000000) (3, 1, 9)
noncomputable def h1_X4_init_3 : zH 4 := (show zT 4 from (((((20, 16, 0x700000000060100000002000000000c000000000d000000000b000000000a0000000001000000000f0000000008000000000100000000050000000004000000000300000000010000000003), (0, 3, 3)), ((0, 1, 3), (0, 3, 0x100000000010000000001))), (((0, 1, 0), (0, 3, 0x10000000701000000070100000007)), zk_99_zs1_61_X4_init_0)), ((((0, 3, 0x300000000020000000001), (0, 3, 0x10000000101000000010100000001)), ((0, 1, 0x100000000), (0, 4, 0x100000000010000000000))), (((3, 1, 0xe), (0, 1, 0)), ((3, 1, 0x10), (0, 1, 0))))), (16, (0, 0)))
theorem ev_X4_init_3 : f_X4_inita [zR 1, zR 2, zI 1, zI 3] h0_X4_init_3 (zrk (zU) h1_X4_init_3) = true := by decide +kernel
noncomputable def g_X4_init_3 {d : Nat} : List zV → zH d → zP d → Bool := zsmy [(0, 0), (0, 1)] [zR 1, zR 2, zI 1, zI 3] h0_X4_init_3 (zU) h1_X4_init_3
theorem mg_X4_init_3 {d : Nat} : zMet (d := d) X_X4_init yX4_init 10 g_X4_init_3 := zMet_sm m_X4_inita ev_X4_init_3
noncomputable def h0_X4_init_4 : zH 5 := (show zT 5 from ((((((20, 16, 0), (0, 3, 0x10000000002)), zO1), zO2), zO3), zO4), (2, (64, 6000)))
noncomputable def zk_99_zs1_61_X4_init_1 : zT 4 := @Prod.mk (zT 3) (zT 3) ((((3, 2, 0x130000000012), (0, 2, 0)), ((0, 2, 0), (0, 0, 0))), zO2) zO3
noncomputable def h1_X4_init_4 : zH 5 := (show zT 5 from ((((((20, 16, 0x700000000060100000003000000000d000000000e000000000c000000000b000000000200000000110000000008000000000200000000050000000004000000000300000000020000000003), (0, 3, 0x10000000002)), ((0, 2, 0x10000000002), (0, 2, 0x10000000002))), (((0, 2, 0x20000000000), (0, 3, 0x10000000701000000070100000007)), ((0, 4, 0x100000000010000000001000000000100000000), (3, 2, 0xa0000000009)))), ((((0, 3, 0x300000000020000000001), (0, 3, 0x200000000030000000001)), ((0, 6, 0x10000000201000000020100000002010000000201000000020100000002), (0, 2, 0x1000000000100000000))), (((0, 4, 0x200000000010000000000), (3, 2, 0x10000000000f)), ((0, 2, 0), (0, 2, 0))))), zk_99_zs1_61_X4_init_1), (19, (0, 0)))
theorem ev_X4_init_4 : f_X4_inita [zR 1, zR 2, zI 2, zI 3] h0_X4_init_4 (zrk (zU) h1_X4_init_4) = true := by decide +kernel
noncomputable def g_X4_init_4 {d : Nat} : List zV → zH d → zP d → Bool := zsmy [(0, 0), (0, 1)] [zR 1, zR 2, zI 2, zI 3] h0_X4_init_4 (zU) h1_X4_init_4
theorem mg_X4_init_4 {d : Nat} : zMet (d := d) X_X4_init yX4_init 10 g_X4_init_4 := zMet_sm m_X4_inita ev_X4_init_4
noncomputable def h0_X4_init_5 : zH 4 := (show zT 4 from (((((20, 16, 0), (0, 3, 0x100000000010000000001)), zO1), zO2), zO3), (2, (64, 6000)))
noncomputable def zk_99_zs1_61_X4_init_2 : zC := (0, 6, 0x10000000001000000000100000000010000000001000000000100000000)
noncomputable def h1_X4_init_5 : zH 4 := (show zT 4 from (((((20, 16, 0x700000000060100000007000000000c000000000d000000000b000000000a0000000006000000000f0000000008000000000100000000050000000004000000000300000000030000000003), (0, 3, 0x100000000010000000001)), ((0, 3, 0x100000000010000000001), (0, 1, 3))), (((0, 3, 0x200000000010000000000), (0, 3, 0x10000000701000000070100000007)), zk_99_zs1_61_X4_init_0)), ((((0, 3, 0x300000000020000000001), (0, 18, zun 40 18 4294967299)), (zk_99_zs1_61_X4_init_2, (0, 4, 0x300000000010000000000))), (((3, 1, 0xe), (0, 6, 0)), ((3, 1, 0x10), (0, 1, 0))))), (16, (0, 0)))
theorem ev_X4_init_5 : f_X4_inita [zR 1, zR 2, zI 3, zI 3] h0_X4_init_5 (zrk (zU) h1_X4_init_5) = true := by decide +kernel
noncomputable def g_X4_init_5 {d : Nat} : List zV → zH d → zP d → Bool := zsmy [(0, 0), (0, 1)] [zR 1, zR 2, zI 3, zI 3] h0_X4_init_5 (zU) h1_X4_init_5
theorem mg_X4_init_5 {d : Nat} : zMet (d := d) X_X4_init yX4_init 10 g_X4_init_5 := zMet_sm m_X4_inita ev_X4_init_5
noncomputable def h0_X4_init_6 : zH 4 := (show zT 4 from (((((20, 16, 0), (0, 4, 4)), zO1), zO2), zO3), (2, (64, 6000)))
noncomputable def zk_99_zs1_61_X4_init_3 : zT 1 := @Prod.mk (zT 0) (zT 0) (0, 5, 0x1000000000100000000010000000001000000000100000000) (3, 1, 9)
noncomputable def h1_X4_init_6 : zH 4 := (show zT 4 from (((((20, 16, 0x700000000060100000002000000000c000000000d000000000b000000000a0000000001000000000f0000000008000000000100000000050000000004000000000300000000010000000004), (0, 4, 4)), ((0, 1, 4), (0, 4, 0x1000000000100000000010000000001))), (((0, 1, 0), (0, 4, 0x100000007010000000701000000070100000007)), zk_99_zs1_61_X4_init_3)), ((((0, 4, 0x4000000000300000000020000000001), (0, 4, 0x100000001010000000101000000010100000001)), ((0, 1, 0x100000000), (0, 5, 0x1000000000100000000010000000000))), (((3, 1, 0xe), (0, 1, 0)), ((3, 1, 0x10), (0, 1, 0))))), (16, (0, 0)))
theorem ev_X4_init_6 : f_X4_inita [zR 1, zR 2, zI 1, zI 4] h0_X4_init_6 (zrk (zU) h1_X4_init_6) = true := by decide +kernel
noncomputable def g_X4_init_6 {d : Nat} : List zV → zH d → zP d → Bool := zsmy [(0, 0), (0, 1)] [zR 1, zR 2, zI 1, zI 4] h0_X4_init_6 (zU) h1_X4_init_6
theorem mg_X4_init_6 {d : Nat} : zMet (d := d) X_X4_init yX4_init 10 g_X4_init_6 := zMet_sm m_X4_inita ev_X4_init_6
noncomputable def h0_X4_init_7 : zH 5 := (show zT 5 from ((((((20, 16, 0), (0, 4, 0x10000000003)), zO1), zO2), zO3), zO4), (2, (64, 6000)))
noncomputable def zk_99_zs1_61_X4_init_4 : zT 1 := @Prod.mk (zT 0) (zT 0) (0, 5, 0x1000000000100000000010000000001000000000100000000) (3, 3, 0xb000000000a0000000009)
noncomputable def h1_X4_init_7 : zH 5 := (show zT 5 from ((((((20, 16, 0x700000000060100000003000000000e000000000f000000000d000000000c000000000200000000130000000008000000000300000000050000000004000000000300000000020000000004), (0, 4, 0x10000000003)), ((0, 2, 0x10000000003), (0, 3, 0x100000000010000000002))), (((0, 2, 0x30000000000), (0, 4, 0x100000007010000000701000000070100000007)), zk_99_zs1_61_X4_init_4)), ((((0, 4, 0x4000000000300000000020000000001), (0, 4, 0x3000000000400000000020000000001)), ((0, 4, 0x2000000000400000000030000000001), (0, 8, zun 40 8 4294967298))), (((0, 2, 0x1000000000100000000), (0, 5, 0x4000000000200000000010000000000)), ((3, 3, 0x1200000000110000000010), (0, 2, 0))))), (((((0, 2, 0), (0, 2, 0)), ((3, 3, 0x1600000000150000000014), (0, 3, 0))), (((0, 3, 0), (0, 3, 0)), zO1)), zO3)), (22, (0, 0)))
theorem ev_X4_init_7 : f_X4_inita [zR 1, zR 2, zI 2, zI 4] h0_X4_init_7 (zrk (zU) h1_X4_init_7) = true := by decide +kernel
noncomputable def g_X4_init_7 {d : Nat} : List zV → zH d → zP d → Bool := zsmy [(0, 0), (0, 1)] [zR 1, zR 2, zI 2, zI 4] h0_X4_init_7 (zU) h1_X4_init_7
theorem mg_X4_init_7 {d : Nat} : zMet (d := d) X_X4_init yX4_init 10 g_X4_init_7 := zMet_sm m_X4_inita ev_X4_init_7
noncomputable def h0_X4_init_8 : zH 5 := (show zT 5 from ((((((20, 16, 0), (0, 4, 0x20000000002)), zO1), zO2), zO3), zO4), (2, (64, 6000)))
noncomputable def zk_99_zs1_61_X4_init_5 : zT 1 := @Prod.mk (zT 0) (zT 0) (0, 4, 0x4000000000300000000020000000001) (0, 4, 0x4000000000200000000030000000001)
noncomputable def h1_X4_init_8 : zH 5 := (show zT 5 from ((((((20, 16, 0x700000000060100000005000000000d000000000e000000000c000000000b000000000400000000110000000008000000000200000000050000000004000000000300000000020000000004), (0, 4, 0x20000000002)), ((0, 2, 0x20000000002), (0, 2, 0x20000000002))), (((0, 2, 0x20000000000), (0, 4, 0x100000007010000000701000000070100000007)), ((0, 5, 0x1000000000100000000010000000001000000000100000000), (3, 2, 0xa0000000009)))), ((zk_99_zs1_61_X4_init_5, ((0, 16, zun 40 16 4294967298), (0, 4, 0x100000000010000000001000000000100000000))), (((0, 5, 0x4000000000200000000010000000000), (3, 2, 0x10000000000f)), ((0, 4, 0), (0, 4, 0))))), zk_99_zs1_61_X4_init_1), (19, (0, 0)))
theorem ev_X4_init_8 : f_X4_inita [zR 1, zR 2, zI 2, zI 4] h0_X4_init_8 (zrk (zU) h1_X4_init_8) = true := by decide +kernel
noncomputable def g_X4_init_8 {d : Nat} : List zV → zH d → zP d → Bool := zsmy [(0, 0), (0, 1)] [zR 1, zR 2, zI 2, zI 4] h0_X4_init_8 (zU) h1_X4_init_8
theorem mg_X4_init_8 {d : Nat} : zMet (d := d) X_X4_init yX4_init 10 g_X4_init_8 := zMet_sm m_X4_inita ev_X4_init_8
noncomputable def h0_X4_init_9 : zH 5 := (show zT 5 from ((((((20, 16, 0), (0, 4, 0x100000000010000000002)), zO1), zO2), zO3), zO4), (2, (64, 6000)))
noncomputable def h1_X4_init_9 : zH 5 := (show zT 5 from ((((((20, 16, 0x700000000060100000007000000000e000000000f000000000d000000000c000000000600000000130000000008000000000300000000050000000004000000000300000000030000000004), (0, 4, 0x100000000010000000002)), ((0, 3, 0x100000000010000000002), (0, 2, 0x10000000003))), (((0, 3, 0x300000000020000000000), (0, 4, 0x100000007010000000701000000070100000007)), zk_99_zs1_61_X4_init_4)), ((zk_99_zs1_61_X4_init_5, ((0, 4, 0x3000000000200000000040000000001), (0, 24, zun 40 24 4294967299))), ((zk_99_zs1_61_X4_init_2, (0, 5, 0x9000000000300000000010000000000)), ((3, 3, 0x1200000000110000000010), (0, 6, 0))))), (((((0, 6, 0), (0, 6, 0)), ((3, 3, 0x1600000000150000000014), (0, 3, 0))), (((0, 3, 0), (0, 3, 0)), zO1)), zO3)), (22, (0, 0)))
theorem ev_X4_init_9 : f_X4_inita [zR 1, zR 2, zI 3, zI 4] h0_X4_init_9 (zrk (zU) h1_X4_init_9) = true := by decide +kernel
noncomputable def g_X4_init_9 {d : Nat} : List zV → zH d → zP d → Bool := zsmy [(0, 0), (0, 1)] [zR 1, zR 2, zI 3, zI 4] h0_X4_init_9 (zU) h1_X4_init_9
theorem mg_X4_init_9 {d : Nat} : zMet (d := d) X_X4_init yX4_init 10 g_X4_init_9 := zMet_sm m_X4_inita ev_X4_init_9
noncomputable def h0_X4_init_10 : zH 4 := (show zT 4 from (((((20, 16, 0), (0, 4, 0x1000000000100000000010000000001)), zO1), zO2), zO3), (2, (64, 6000)))
noncomputable def h1_X4_init_10 : zH 4 := (show zT 4 from (((((20, 16, 0x700000000060100000019000000000c000000000d000000000b000000000a0000000018000000000f0000000008000000000100000000050000000004000000000300000000040000000004), (0, 4, 0x1000000000100000000010000000001)), ((0, 4, 0x1000000000100000000010000000001), (0, 1, 4))), (((0, 4, 0x3000000000200000000010000000000), (0, 4, 0x100000007010000000701000000070100000007)), zk_99_zs1_61_X4_init_3)), ((((0, 4, 0x4000000000300000000020000000001), (0, 96, zun 40 96 4294967300)), ((0, 24, zun 40 24 4294967296), (0, 5, 0x10000000000400000000010000000000))), (((3, 1, 0xe), (0, 24, 0)), ((3, 1, 0x10), (0, 1, 0))))), (16, (0, 0)))
theorem ev_X4_init_10 : f_X4_inita [zR 1, zR 2, zI 4, zI 4] h0_X4_init_10 (zrk (zU) h1_X4_init_10) = true := by decide +kernel
noncomputable def g_X4_init_10 {d : Nat} : List zV → zH d → zP d → Bool := zsmy [(0, 0), (0, 1)] [zR 1, zR 2, zI 4, zI 4] h0_X4_init_10 (zU) h1_X4_init_10
theorem mg_X4_init_10 {d : Nat} : zMet (d := d) X_X4_init yX4_init 10 g_X4_init_10 := zMet_sm m_X4_inita ev_X4_init_10
noncomputable def h0_X4_init_11 : zH 4 := (show zT 4 from (((((20, 16, 0), (0, 5, 5)), zO1), zO2), zO3), (2, (64, 6000)))
noncomputable def h1_X4_init_11 : zH 4 := (show zT 4 from (((((20, 16, 0x700000000060100000002000000000c000000000d000000000b000000000a0000000001000000000f0000000008000000000100000000050000000004000000000300000000010000000005), (0, 5, 5)), ((0, 1, 5), (0, 5, 0x10000000001000000000100000000010000000001))), (((0, 1, 0), (0, 5, 0x1000000070100000007010000000701000000070100000007)), (zk_99_zs1_61_X4_init_2, (3, 1, 9)))), ((((0, 5, 0x50000000004000000000300000000020000000001), (0, 5, 0x1000000010100000001010000000101000000010100000001)), ((0, 1, 0x100000000), (0, 6, 0x10000000001000000000100000000010000000000))), (((3, 1, 0xe), (0, 1, 0)), ((3, 1, 0x10), (0, 1, 0))))), (16, (0, 0)))
theorem ev_X4_init_11 : f_X4_inita [zR 1, zR 2, zI 1, zI 5] h0_X4_init_11 (zrk (zU) h1_X4_init_11) = true := by decide +kernel
noncomputable def g_X4_init_11 {d : Nat} : List zV → zH d → zP d → Bool := zsmy [(0, 0), (0, 1)] [zR 1, zR 2, zI 1, zI 5] h0_X4_init_11 (zU) h1_X4_init_11
theorem mg_X4_init_11 {d : Nat} : zMet (d := d) X_X4_init yX4_init 10 g_X4_init_11 := zMet_sm m_X4_inita ev_X4_init_11
noncomputable def h0_X4_init_12 : zH 5 := (show zT 5 from ((((((20, 16, 0), (0, 5, 0x10000000004)), zO1), zO2), zO3), zO4), (2, (64, 6000)))
noncomputable def zk_99_zs1_61_X4_init_6 : zT 1 := @Prod.mk (zT 0) (zT 0) zk_99_zs1_61_X4_init_2 (3, 4, 0xc000000000b000000000a0000000009)
noncomputable def zk_99_zs1_61_X4_init_7 : zT 1 := @Prod.mk (zT 0) (zT 0) (0, 5, 0x50000000004000000000300000000020000000001) (0, 5, 0x40000000005000000000300000000020000000001)
noncomputable def zk_99_zs1_61_X4_init_8 : zT 2 := @Prod.mk (zT 1) (zT 1) ((3, 4, 0x19000000001800000000170000000016), (0, 4, 0)) ((0, 4, 0), (0, 4, 0))
noncomputable def h1_X4_init_12 : zH 5 := (show zT 5 from ((((((20, 16, 0x700000000060100000003000000000f0000000010000000000e000000000d000000000200000000150000000008000000000400000000050000000004000000000300000000020000000005), (0, 5, 0x10000000004)), ((0, 2, 0x10000000004), (0, 4, 0x1000000000100000000010000000002))), (((0, 2, 0x40000000000), (0, 5, 0x1000000070100000007010000000701000000070100000007)), zk_99_zs1_61_X4_init_6)), ((zk_99_zs1_61_X4_init_7, ((0, 5, 0x30000000005000000000400000000020000000001), (0, 5, 0x20000000005000000000400000000030000000001))), (((0, 10, zun 40 10 4294967298), (0, 2, 0x1000000000100000000)), ((0, 6, 0x80000000004000000000200000000010000000000), (3, 4, 0x14000000001300000000120000000011))))), (((((0, 2, 0), (0, 2, 0)), ((0, 2, 0), (0, 2, 0))), zk_99_zs1_61_X4_init_8), ((((0, 4, 0), (0, 0, 0)), zO1), zO2))), (25, (0, 0)))
theorem ev_X4_init_12 : f_X4_inita [zR 1, zR 2, zI 2, zI 5] h0_X4_init_12 (zrk (zU) h1_X4_init_12) = true := by decide +kernel
noncomputable def g_X4_init_12 {d : Nat} : List zV → zH d → zP d → Bool := zsmy [(0, 0), (0, 1)] [zR 1, zR 2, zI 2, zI 5] h0_X4_init_12 (zU) h1_X4_init_12
theorem mg_X4_init_12 {d : Nat} : zMet (d := d) X_X4_init yX4_init 10 g_X4_init_12 := zMet_sm m_X4_inita ev_X4_init_12
noncomputable def h0_X4_init_13 : zH 5 := (show zT 5 from ((((((20, 16, 0), (0, 5, 0x20000000003)), zO1), zO2), zO3), zO4), (2, (64, 6000)))
noncomputable def zk_99_zs1_61_X4_init_9 : zT 1 := @Prod.mk (zT 0) (zT 0) zk_99_zs1_61_X4_init_2 (3, 5, 0xd000000000c000000000b000000000a0000000009)
noncomputable def zk_99_zs1_61_X4_init_10 : zT 2 := @Prod.mk (zT 1) (zT 1) ((0, 5, 0x50000000004000000000300000000020000000001), (0, 5, 0x50000000003000000000400000000020000000001)) ((0, 5, 0x40000000003000000000500000000020000000001), (0, 5, 0x50000000002000000000400000000030000000001))
noncomputable def zk_99_zs1_61_X4_init_11 : zT 1 := @Prod.mk (zT 0) (zT 0) (3, 5, 0x1c000000001b000000001a00000000190000000018) (0, 5, 0)
noncomputable def h1_X4_init_13 : zH 5 := (show zT 5 from ((((((20, 16, 0x70000000006010000000500000000100000000011000000000f000000000e000000000400000000170000000008000000000500000000050000000004000000000300000000020000000005), (0, 5, 0x20000000003)), ((0, 2, 0x20000000003), (0, 3, 0x100000000020000000002))), (((0, 2, 0x30000000000), (0, 5, 0x1000000070100000007010000000701000000070100000007)), zk_99_zs1_61_X4_init_9)), (zk_99_zs1_61_X4_init_10, (((0, 5, 0x40000000002000000000500000000030000000001), (0, 20, zun 40 20 4294967298)), ((0, 4, 0x100000000010000000001000000000100000000), (0, 6, 0x80000000004000000000200000000010000000000))))), (((((3, 5, 0x160000000015000000001400000000130000000012), (0, 4, 0)), ((0, 4, 0), (0, 4, 0))), (((0, 4, 0), (0, 4, 0)), zk_99_zs1_61_X4_init_11)), ((((0, 5, 0), (0, 5, 0)), ((0, 5, 0), (0, 5, 0))), zO2))), (28, (0, 0)))
theorem ev_X4_init_13 : f_X4_inita [zR 1, zR 2, zI 2, zI 5] h0_X4_init_13 (zrk (zU) h1_X4_init_13) = true := by decide +kernel
noncomputable def g_X4_init_13 {d : Nat} : List zV → zH d → zP d → Bool := zsmy [(0, 0), (0, 1)] [zR 1, zR 2, zI 2, zI 5] h0_X4_init_13 (zU) h1_X4_init_13
theorem mg_X4_init_13 {d : Nat} : zMet (d := d) X_X4_init yX4_init 10 g_X4_init_13 := zMet_sm m_X4_inita ev_X4_init_13
noncomputable def h0_X4_init_14 : zH 5 := (show zT 5 from ((((((20, 16, 0), (0, 5, 0x100000000010000000003)), zO1), zO2), zO3), zO4), (2, (64, 6000)))
noncomputable def h1_X4_init_14 : zH 5 := (show zT 5 from ((((((20, 16, 0x700000000060100000007000000001100000000120000000010000000000f000000000600000000190000000008000000000600000000050000000004000000000300000000030000000005), (0, 5, 0x100000000010000000003)), ((0, 3, 0x100000000010000000003), (0, 3, 0x100000000010000000003))), (((0, 3, 0x400000000030000000000), (0, 5, 0x1000000070100000007010000000701000000070100000007)), (zk_99_zs1_61_X4_init_2, (3, 6, 0xe000000000d000000000c000000000b000000000a0000000009)))), (zk_99_zs1_61_X4_init_10, (((0, 5, 0x40000000002000000000500000000030000000001), (0, 5, 0x30000000002000000000500000000040000000001)), ((0, 30, zun 40 30 4294967299), zk_99_zs1_61_X4_init_2)))), (((((0, 6, 0x1b0000000009000000000300000000010000000000), (3, 6, 0x1800000000170000000016000000001500000000140000000013)), ((0, 6, 0), (0, 6, 0))), (((0, 6, 0), (0, 6, 0)), ((0, 6, 0), (0, 6, 0)))), ((((3, 6, 0x1f000000001e000000001d000000001c000000001b000000001a), (0, 6, 0)), ((0, 6, 0), (0, 6, 0))), (((0, 6, 0), (0, 6, 0)), ((0, 6, 0), (0, 0, 0)))))), (31, (0, 0)))
theorem ev_X4_init_14 : f_X4_inita [zR 1, zR 2, zI 3, zI 5] h0_X4_init_14 (zrk (zU) h1_X4_init_14) = true := by decide +kernel
noncomputable def g_X4_init_14 {d : Nat} : List zV → zH d → zP d → Bool := zsmy [(0, 0), (0, 1)] [zR 1, zR 2, zI 3, zI 5] h0_X4_init_14 (zU) h1_X4_init_14
theorem mg_X4_init_14 {d : Nat} : zMet (d := d) X_X4_init yX4_init 10 g_X4_init_14 := zMet_sm m_X4_inita ev_X4_init_14
noncomputable def h0_X4_init_15 : zH 5 := (show zT 5 from ((((((20, 16, 0), (0, 5, 0x100000000020000000002)), zO1), zO2), zO3), zO4), (2, (64, 6000)))
noncomputable def h1_X4_init_15 : zH 5 := (show zT 5 from ((((((20, 16, 0x70000000006010000000d00000000100000000011000000000f000000000e000000000c00000000170000000008000000000500000000050000000004000000000300000000030000000005), (0, 5, 0x100000000020000000002)), ((0, 3, 0x100000000020000000002), (0, 2, 0x20000000003))), (((0, 3, 0x400000000020000000000), (0, 5, 0x1000000070100000007010000000701000000070100000007)), zk_99_zs1_61_X4_init_9)), ((zk_99_zs1_61_X4_init_7, ((0, 5, 0x50000000004000000000200000000030000000001), (0, 5, 0x40000000005000000000200000000030000000001))), (((0, 5, 0x30000000005000000000200000000040000000001), (0, 60, zun 40 60 4294967299)), ((0, 12, zun 40 12 4294967296), (0, 6, 0x1b0000000009000000000300000000010000000000))))), (((((3, 5, 0x160000000015000000001400000000130000000012), (0, 12, 0)), ((0, 12, 0), (0, 12, 0))), (((0, 12, 0), (0, 12, 0)), zk_99_zs1_61_X4_init_11)), ((((0, 5, 0), (0, 5, 0)), ((0, 5, 0), (0, 5, 0))), zO2))), (28, (0, 0)))
theorem ev_X4_init_15 : f_X4_inita [zR 1, zR 2, zI 3, zI 5] h0_X4_init_15 (zrk (zU) h1_X4_init_15) = true := by decide +kernel
noncomputable def g_X4_init_15 {d : Nat} : List zV → zH d → zP d → Bool := zsmy [(0, 0), (0, 1)] [zR 1, zR 2, zI 3, zI 5] h0_X4_init_15 (zU) h1_X4_init_15
theorem mg_X4_init_15 {d : Nat} : zMet (d := d) X_X4_init yX4_init 10 g_X4_init_15 := zMet_sm m_X4_inita ev_X4_init_15
noncomputable def h0_X4_init_16 : zH 5 := (show zT 5 from ((((((20, 16, 0), (0, 5, 0x1000000000100000000010000000002)), zO1), zO2), zO3), zO4), (2, (64, 6000)))
noncomputable def h1_X4_init_16 : zH 5 := (show zT 5 from ((((((20, 16, 0x700000000060100000019000000000f0000000010000000000e000000000d000000001800000000150000000008000000000400000000050000000004000000000300000000040000000005), (0, 5, 0x1000000000100000000010000000002)), ((0, 4, 0x1000000000100000000010000000002), (0, 2, 0x10000000004))), (((0, 4, 0x4000000000300000000020000000000), (0, 5, 0x1000000070100000007010000000701000000070100000007)), zk_99_zs1_61_X4_init_6)), ((((0, 5, 0x50000000004000000000300000000020000000001), (0, 5, 0x50000000004000000000200000000030000000001)), ((0, 5, 0x50000000003000000000200000000040000000001), (0, 5, 0x40000000003000000000200000000050000000001))), (((0, 120, zun 40 120 4294967300), (0, 24, zun 40 24 4294967296)), ((0, 6, 0x400000000010000000000400000000010000000000), (3, 4, 0x14000000001300000000120000000011))))), (((((0, 24, 0), (0, 24, 0)), ((0, 24, 0), (0, 24, 0))), zk_99_zs1_61_X4_init_8), ((((0, 4, 0), (0, 0, 0)), zO1), zO2))), (25, (0, 0)))
theorem ev_X4_init_16 : f_X4_inita [zR 1, zR 2, zI 4, zI 5] h0_X4_init_16 (zrk (zU) h1_X4_init_16) = true := by decide +kernel
noncomputable def g_X4_init_16 {d : Nat} : List zV → zH d → zP d → Bool := zsmy [(0, 0), (0, 1)] [zR 1, zR 2, zI 4, zI 5] h0_X4_init_16 (zU) h1_X4_init_16
theorem mg_X4_init_16 {d : Nat} : zMet (d := d) X_X4_init yX4_init 10 g_X4_init_16 := zMet_sm m_X4_inita ev_X4_init_16
noncomputable def h0_X4_init_17 : zH 4 := (show zT 4 from (((((20, 16, 0), (0, 5, 0x10000000001000000000100000000010000000001)), zO1), zO2), zO3), (2, (64, 6000)))
noncomputable def h1_X4_init_17 : zH 4 := (show zT 4 from (((((20, 16, 0x700000000060100000079000000000c000000000d000000000b000000000a0000000078000000000f0000000008000000000100000000050000000004000000000300000000050000000005), (0, 5, 0x10000000001000000000100000000010000000001)), ((0, 5, 0x10000000001000000000100000000010000000001), (0, 1, 5))), (((0, 5, 0x40000000003000000000200000000010000000000), (0, 5, 0x1000000070100000007010000000701000000070100000007)), (zk_99_zs1_61_X4_init_2, (3, 1, 9)))), ((((0, 5, 0x50000000004000000000300000000020000000001), (0, 600, zun 40 600 4294967301)), ((0, 120, zun 40 120 4294967296), (0, 6, 0x7d0000000019000000000500000000010000000000))), (((3, 1, 0xe), (0, 120, 0)), ((3, 1, 0x10), (0, 1, 0))))), (16, (0, 0)))
theorem ev_X4_init_17 : f_X4_inita [zR 1, zR 2, zI 5, zI 5] h0_X4_init_17 (zrk (zU) h1_X4_init_17) = true := by decide +kernel
noncomputable def g_X4_init_17 {d : Nat} : List zV → zH d → zP d → Bool := zsmy [(0, 0), (0, 1)] [zR 1, zR 2, zI 5, zI 5] h0_X4_init_17 (zU) h1_X4_init_17
theorem mg_X4_init_17 {d : Nat} : zMet (d := d) X_X4_init yX4_init 10 g_X4_init_17 := zMet_sm m_X4_inita ev_X4_init_17
noncomputable def h0_X4_init_18 : zH 4 := (show zT 4 from (((((20, 16, 0), (0, 6, 6)), zO1), zO2), zO3), (2, (64, 6000)))
noncomputable def zk_99_zs1_61_X4_init_12 : zC := (0, 6, 0x100000000010000000001000000000100000000010000000001)
noncomputable def zk_99_zs1_61_X4_init_13 : zC := (0, 6, 0x10000000701000000070100000007010000000701000000070100000007)
noncomputable def zk_99_zs1_61_X4_init_14 : zC := (0, 7, 0x100000000010000000001000000000100000000010000000001000000000100000000)
noncomputable def zk_99_zs1_61_X4_init_15 : zC := (0, 6, 0x600000000050000000004000000000300000000020000000001)
noncomputable def h1_X4_init_18 : zH 4 := (show zT 4 from (((((20, 16, 0x700000000060100000002000000000c000000000d000000000b000000000a0000000001000000000f0000000008000000000100000000050000000004000000000300000000010000000006), (0, 6, 6)), ((0, 1, 6), zk_99_zs1_61_X4_init_12)), (((0, 1, 0), zk_99_zs1_61_X4_init_13), (zk_99_zs1_61_X4_init_14, (3, 1, 9)))), (((zk_99_zs1_61_X4_init_15, (0, 6, 0x10000000101000000010100000001010000000101000000010100000001)), ((0, 1, 0x100000000), (0, 7, 0x100000000010000000001000000000100000000010000000000))), (((3, 1, 0xe), (0, 1, 0)), ((3, 1, 0x10), (0, 1, 0))))), (16, (0, 0)))
theorem ev_X4_init_18 : f_X4_inita [zR 1, zR 2, zI 1, zI 6] h0_X4_init_18 (zrk (zU) h1_X4_init_18) = true := by decide +kernel
noncomputable def g_X4_init_18 {d : Nat} : List zV → zH d → zP d → Bool := zsmy [(0, 0), (0, 1)] [zR 1, zR 2, zI 1, zI 6] h0_X4_init_18 (zU) h1_X4_init_18
theorem mg_X4_init_18 {d : Nat} : zMet (d := d) X_X4_init yX4_init 10 g_X4_init_18 := zMet_sm m_X4_inita ev_X4_init_18
noncomputable def h0_X4_init_19 : zH 5 := (show zT 5 from ((((((20, 16, 0), (0, 6, 0x10000000005)), zO1), zO2), zO3), zO4), (2, (64, 6000)))
noncomputable def zk_99_zs1_61_X4_init_16 : zT 1 := @Prod.mk (zT 0) (zT 0) zk_99_zs1_61_X4_init_14 (3, 5, 0xd000000000c000000000b000000000a0000000009)
noncomputable def zk_99_zs1_61_X4_init_17 : zT 1 := @Prod.mk (zT 0) (zT 0) zk_99_zs1_61_X4_init_15 (0, 6, 0x500000000060000000004000000000300000000020000000001)
noncomputable def zk_99_zs1_61_X4_init_18 : zC := (0, 7, 0x1000000000080000000004000000000200000000010000000000)
noncomputable def h1_X4_init_19 : zH 5 := (show zT 5 from ((((((20, 16, 0x70000000006010000000300000000100000000011000000000f000000000e000000000200000000170000000008000000000500000000050000000004000000000300000000020000000006), (0, 6, 0x10000000005)), ((0, 2, 0x10000000005), (0, 5, 0x10000000001000000000100000000010000000002))), (((0, 2, 0x50000000000), zk_99_zs1_61_X4_init_13), zk_99_zs1_61_X4_init_16)), ((zk_99_zs1_61_X4_init_17, ((0, 6, 0x400000000060000000005000000000300000000020000000001), (0, 6, 0x300000000060000000005000000000400000000020000000001))), (((0, 6, 0x200000000060000000005000000000400000000030000000001), (0, 12, zun 40 12 4294967298)), ((0, 2, 0x1000000000100000000), zk_99_zs1_61_X4_init_18)))), (((((3, 5, 0x160000000015000000001400000000130000000012), (0, 2, 0)), ((0, 2, 0), (0, 2, 0))), (((0, 2, 0), (0, 2, 0)), zk_99_zs1_61_X4_init_11)), ((((0, 5, 0), (0, 5, 0)), ((0, 5, 0), (0, 5, 0))), zO2))), (28, (0, 0)))
theorem ev_X4_init_19 : f_X4_inita [zR 1, zR 2, zI 2, zI 6] h0_X4_init_19 (zrk (zU) h1_X4_init_19) = true := by decide +kernel
noncomputable def g_X4_init_19 {d : Nat} : List zV → zH d → zP d → Bool := zsmy [(0, 0), (0, 1)] [zR 1, zR 2, zI 2, zI 6] h0_X4_init_19 (zU) h1_X4_init_19
theorem mg_X4_init_19 {d : Nat} : zMet (d := d) X_X4_init yX4_init 10 g_X4_init_19 := zMet_sm m_X4_inita ev_X4_init_19
noncomputable def h0_X4_init_20 : zH 6 := (show zT 6 from (((((((20, 16, 0), (0, 6, 0x20000000004)), zO1), zO2), zO3), zO4), zO5), (2, (64, 6000)))
noncomputable def zk_99_zs1_61_X4_init_19 : zT 1 := @Prod.mk (zT 0) (zT 0) zk_99_zs1_61_X4_init_14 (3, 9, 0x110000000010000000000f000000000e000000000d000000000c000000000b000000000a0000000009)
noncomputable def zk_99_zs1_61_X4_init_20 : zT 1 := @Prod.mk (zT 0) (zT 0) zk_99_zs1_61_X4_init_15 (0, 6, 0x600000000040000000005000000000300000000020000000001)
noncomputable def zk_99_zs1_61_X4_init_21 : zC := (0, 6, 0x500000000040000000006000000000300000000020000000001)
noncomputable def zk_99_zs1_61_X4_init_22 : zT 3 := @Prod.mk (zT 2) (zT 2) (zk_99_zs1_61_X4_init_20, (zk_99_zs1_61_X4_init_21, (0, 6, 0x600000000030000000005000000000400000000020000000001))) (((0, 6, 0x500000000030000000006000000000400000000020000000001), (0, 6, 0x400000000030000000006000000000500000000020000000001)), ((0, 6, 0x600000000020000000005000000000400000000030000000001), (0, 6, 0x500000000020000000006000000000400000000030000000001)))
noncomputable def zk_99_zs1_61_X4_init_23 : zC := (0, 6, 0x400000000020000000006000000000500000000030000000001)
noncomputable def zk_99_zs1_61_X4_init_24 : zC := (3, 9, 0x1e000000001d000000001c000000001b000000001a0000000019000000001800000000170000000016)
noncomputable def zk_99_zs1_61_X4_init_25 : zT 1 := @Prod.mk (zT 0) (zT 0) (3, 9, 0x2800000000270000000026000000002500000000240000000023000000002200000000210000000020) (0, 9, 0)
noncomputable def zk_99_zs1_61_X4_init_26 : zT 5 := @Prod.mk (zT 4) (zT 4) (((((0, 9, 0), (0, 9, 0)), ((0, 9, 0), (0, 9, 0))), (((0, 9, 0), (0, 9, 0)), ((0, 9, 0), (0, 9, 0)))), zO3) zO4
noncomputable def h1_X4_init_20 : zH 6 := (show zT 6 from (((((((20, 16, 0x70000000006010000000500000000140000000015000000001300000000120000000004000000001f0000000008000000000900000000050000000004000000000300000000020000000006), (0, 6, 0x20000000004)), ((0, 2, 0x20000000004), (0, 4, 0x1000000000100000000020000000002))), (((0, 2, 0x40000000000), zk_99_zs1_61_X4_init_13), zk_99_zs1_61_X4_init_19)), zk_99_zs1_61_X4_init_22), ((((zk_99_zs1_61_X4_init_23, (0, 24, zun 40 24 4294967298)), ((0, 4, 0x100000000010000000001000000000100000000), zk_99_zs1_61_X4_init_18)), ((zk_99_zs1_61_X4_init_24, (0, 4, 0)), ((0, 4, 0), (0, 4, 0)))), ((((0, 4, 0), (0, 4, 0)), ((0, 4, 0), (0, 4, 0))), (((0, 4, 0), (0, 4, 0)), zk_99_zs1_61_X4_init_25)))), zk_99_zs1_61_X4_init_26), (40, (0, 0)))
theorem ev_X4_init_20 : f_X4_inita [zR 1, zR 2, zI 2, zI 6] h0_X4_init_20 (zrk (zU) h1_X4_init_20) = true := by decide +kernel
noncomputable def g_X4_init_20 {d : Nat} : List zV → zH d → zP d → Bool := zsmy [(0, 0), (0, 1)] [zR 1, zR 2, zI 2, zI 6] h0_X4_init_20 (zU) h1_X4_init_20
theorem mg_X4_init_20 {d : Nat} : zMet (d := d) X_X4_init yX4_init 10 g_X4_init_20 := zMet_sm m_X4_inita ev_X4_init_20
noncomputable def h0_X4_init_21 : zH 6 := (show zT 6 from (((((((20, 16, 0), (0, 6, 0x100000000010000000004)), zO1), zO2), zO3), zO4), zO5), (2, (64, 6000)))
noncomputable def zk_99_zs1_61_X4_init_27 : zT 1 := @Prod.mk (zT 0) (zT 0) zk_99_zs1_61_X4_init_14 (3, 10, 0x1200000000110000000010000000000f000000000e000000000d000000000c000000000b000000000a0000000009)
noncomputable def zk_99_zs1_61_X4_init_28 : zC := (0, 7, 0x51000000001b0000000009000000000300000000010000000000)
noncomputable def zk_99_zs1_61_X4_init_29 : zC := (3, 10, 0x20000000001f000000001e000000001d000000001c000000001b000000001a000000001900000000180000000017)
noncomputable def zk_99_zs1_61_X4_init_30 : zT 5 := @Prod.mk (zT 4) (zT 4) (((((3, 10, 0x2b000000002a00000000290000000028000000002700000000260000000025000000002400000000230000000022), (0, 10, 0)), ((0, 10, 0), (0, 10, 0))), (((0, 10, 0), (0, 10, 0)), ((0, 10, 0), (0, 10, 0)))), ((((0, 10, 0), (0, 10, 0)), ((0, 10, 0), (0, 0, 0))), zO2)) zO4
noncomputable def h1_X4_init_21 : zH 6 := (show zT 6 from (((((((20, 16, 0x7000000000601000000070000000015000000001600000000140000000013000000000600000000210000000008000000000a00000000050000000004000000000300000000030000000006), (0, 6, 0x100000000010000000004)), ((0, 3, 0x100000000010000000004), (0, 4, 0x1000000000100000000010000000003))), (((0, 3, 0x500000000040000000000), zk_99_zs1_61_X4_init_13), zk_99_zs1_61_X4_init_27)), zk_99_zs1_61_X4_init_22), ((((zk_99_zs1_61_X4_init_23, (0, 6, 0x300000000020000000006000000000500000000040000000001)), ((0, 36, zun 40 36 4294967299), zk_99_zs1_61_X4_init_2)), ((zk_99_zs1_61_X4_init_28, zk_99_zs1_61_X4_init_29), ((0, 6, 0), (0, 6, 0)))), ((((0, 6, 0), (0, 6, 0)), ((0, 6, 0), (0, 6, 0))), (((0, 6, 0), (0, 6, 0)), ((0, 6, 0), (0, 6, 0)))))), zk_99_zs1_61_X4_init_30), (43, (0, 0)))
theorem ev_X4_init_21 : f_X4_inita [zR 1, zR 2, zI 3, zI 6] h0_X4_init_21 (zrk (zU) h1_X4_init_21) = true := by decide +kernel
noncomputable def g_X4_init_21 {d : Nat} : List zV → zH d → zP d → Bool := zsmy [(0, 0), (0, 1)] [zR 1, zR 2, zI 3, zI 6] h0_X4_init_21 (zU) h1_X4_init_21
theorem mg_X4_init_21 {d : Nat} : zMet (d := d) X_X4_init yX4_init 10 g_X4_init_21 := zMet_sm m_X4_inita ev_X4_init_21
noncomputable def h0_X4_init_22 : zH 5 := (show zT 5 from ((((((20, 16, 0), (0, 6, 0x100000000030000000003)), zO1), zO2), zO3), zO4), (2, (64, 6000)))
noncomputable def zk_99_zs1_61_X4_init_31 : zC := (0, 6, 0x600000000050000000003000000000400000000020000000001)
noncomputable def zk_99_zs1_61_X4_init_32 : zC := (0, 6, 0x600000000040000000003000000000500000000020000000001)
noncomputable def zk_99_zs1_61_X4_init_33 : zC := (0, 6, 0x600000000050000000002000000000400000000030000000001)
noncomputable def zk_99_zs1_61_X4_init_34 : zC := (0, 6, 0x600000000040000000002000000000500000000030000000001)
noncomputable def h1_X4_init_22 : zH 5 := (show zT 5 from ((((((20, 16, 0x70000000006010000000900000000100000000011000000000f000000000e000000000800000000170000000008000000000500000000050000000004000000000300000000020000000006), (0, 6, 0x100000000030000000003)), ((0, 2, 0x30000000003), (0, 3, 0x200000000020000000002))), (((0, 2, 0x30000000000), zk_99_zs1_61_X4_init_13), zk_99_zs1_61_X4_init_16)), (((zk_99_zs1_61_X4_init_15, zk_99_zs1_61_X4_init_31), (zk_99_zs1_61_X4_init_32, zk_99_zs1_61_X4_init_33)), ((zk_99_zs1_61_X4_init_34, (0, 48, zun 40 48 4294967298)), ((0, 8, zun 40 8 4294967296), zk_99_zs1_61_X4_init_18)))), (((((3, 5, 0x160000000015000000001400000000130000000012), (0, 8, 0)), ((0, 8, 0), (0, 8, 0))), (((0, 8, 0), (0, 8, 0)), zk_99_zs1_61_X4_init_11)), ((((0, 5, 0), (0, 5, 0)), ((0, 5, 0), (0, 5, 0))), zO2))), (28, (0, 0)))
theorem ev_X4_init_22 : f_X4_inita [zR 1, zR 2, zI 2, zI 6] h0_X4_init_22 (zrk (zU) h1_X4_init_22) = true := by decide +kernel
noncomputable def g_X4_init_22 {d : Nat} : List zV → zH d → zP d → Bool := zsmy [(0, 0), (0, 1)] [zR 1, zR 2, zI 2, zI 6] h0_X4_init_22 (zU) h1_X4_init_22
theorem mg_X4_init_22 {d : Nat} : zMet (d := d) X_X4_init yX4_init 10 g_X4_init_22 := zMet_sm m_X4_inita ev_X4_init_22
noncomputable def h0_X4_init_23 : zH 6 := (show zT 6 from (((((((20, 16, 0), (0, 6, 0x100000000020000000003)), zO1), zO2), zO3), zO4), zO5), (2, (64, 6000)))
noncomputable def zk_99_zs1_61_X4_init_35 : zC := (0, 6, 0x500000000040000000003000000000600000000020000000001)
noncomputable def zk_99_zs1_61_X4_init_36 : zC := (0, 6, 0x500000000040000000002000000000600000000030000000001)
noncomputable def h1_X4_init_23 : zH 6 := (show zT 6 from (((((((20, 16, 0x70000000006010000000d000000001b000000001c000000001a0000000019000000000c000000002d0000000008000000001000000000050000000004000000000300000000030000000006), (0, 6, 0x100000000020000000003)), ((0, 3, 0x100000000020000000003), (0, 3, 0x100000000020000000003))), (((0, 3, 0x500000000030000000000), zk_99_zs1_61_X4_init_13), (zk_99_zs1_61_X4_init_14, (3, 16, 0x1800000000170000000016000000001500000000140000000013000000001200000000110000000010000000000f000000000e000000000d000000000c000000000b000000000a0000000009)))), ((zk_99_zs1_61_X4_init_17, (zk_99_zs1_61_X4_init_31, (0, 6, 0x500000000060000000003000000000400000000020000000001))), ((zk_99_zs1_61_X4_init_32, (0, 6, 0x400000000060000000003000000000500000000020000000001)), (zk_99_zs1_61_X4_init_35, (0, 6, 0x400000000050000000003000000000600000000020000000001))))), ((((zk_99_zs1_61_X4_init_33, (0, 6, 0x500000000060000000002000000000400000000030000000001)), (zk_99_zs1_61_X4_init_34, (0, 6, 0x400000000060000000002000000000500000000030000000001))), ((zk_99_zs1_61_X4_init_36, (0, 6, 0x400000000050000000002000000000600000000030000000001)), ((0, 6, 0x300000000060000000002000000000500000000040000000001), (0, 6, 0x300000000050000000002000000000600000000040000000001)))), ((((0, 72, zun 40 72 4294967299), (0, 12, zun 40 12 4294967296)), (zk_99_zs1_61_X4_init_28, (3, 16, 0x2c000000002b000000002a0000000029000000002800000000270000000026000000002500000000240000000023000000002200000000210000000020000000001f000000001e000000001d))), (((0, 12, 0), (0, 12, 0)), ((0, 12, 0), (0, 12, 0)))))), ((((((0, 12, 0), (0, 12, 0)), ((0, 12, 0), (0, 12, 0))), (((0, 12, 0), (0, 12, 0)), ((0, 12, 0), (0, 12, 0)))), ((((0, 12, 0), (0, 12, 0)), ((0, 12, 0), (0, 12, 0))), (((3, 16, 0x3d000000003c000000003b000000003a0000000039000000003800000000370000000036000000003500000000340000000033000000003200000000310000000030000000002f000000002e), (0, 16, 0)), ((0, 16, 0), (0, 16, 0))))), (((((0, 16, 0), (0, 16, 0)), ((0, 16, 0), (0, 16, 0))), (((0, 16, 0), (0, 16, 0)), ((0, 16, 0), (0, 16, 0)))), ((((0, 16, 0), (0, 16, 0)), ((0, 16, 0), (0, 16, 0))), (((0, 16, 0), (0, 0, 0)), zO1))))), (61, (0, 0)))
theorem ev_X4_init_23 : f_X4_inita [zR 1, zR 2, zI 3, zI 6] h0_X4_init_23 (zrk (zU) h1_X4_init_23) = true := by decide +kernel
noncomputable def g_X4_init_23 {d : Nat} : List zV → zH d → zP d → Bool := zsmy [(0, 0), (0, 1)] [zR 1, zR 2, zI 3, zI 6] h0_X4_init_23 (zU) h1_X4_init_23
theorem mg_X4_init_23 {d : Nat} : zMet (d := d) X_X4_init yX4_init 10 g_X4_init_23 := zMet_sm m_X4_inita ev_X4_init_23
noncomputable def h0_X4_init_24 : zH 6 := (show zT 6 from (((((((20, 16, 0), (0, 6, 0x1000000000100000000010000000003)), zO1), zO2), zO3), zO4), zO5), (2, (64, 6000)))
noncomputable def zk_99_zs1_61_X4_init_37 : zC := (0, 7, 0x10000000000400000000010000000000400000000010000000000)
noncomputable def h1_X4_init_24 : zH 6 := (show zT 6 from (((((((20, 16, 0x7000000000601000000190000000015000000001600000000140000000013000000001800000000210000000008000000000a00000000050000000004000000000300000000040000000006), (0, 6, 0x1000000000100000000010000000003)), ((0, 4, 0x1000000000100000000010000000003), (0, 3, 0x100000000010000000004))), (((0, 4, 0x5000000000400000000030000000000), zk_99_zs1_61_X4_init_13), zk_99_zs1_61_X4_init_27)), (((zk_99_zs1_61_X4_init_15, zk_99_zs1_61_X4_init_31), (zk_99_zs1_61_X4_init_32, zk_99_zs1_61_X4_init_35)), ((zk_99_zs1_61_X4_init_33, zk_99_zs1_61_X4_init_34), (zk_99_zs1_61_X4_init_36, (0, 6, 0x600000000030000000002000000000500000000040000000001))))), (((((0, 6, 0x500000000030000000002000000000600000000040000000001), (0, 6, 0x400000000030000000002000000000600000000050000000001)), ((0, 144, zun 40 144 4294967300), (0, 24, zun 40 24 4294967296))), ((zk_99_zs1_61_X4_init_37, zk_99_zs1_61_X4_init_29), ((0, 24, 0), (0, 24, 0)))), ((((0, 24, 0), (0, 24, 0)), ((0, 24, 0), (0, 24, 0))), (((0, 24, 0), (0, 24, 0)), ((0, 24, 0), (0, 24, 0)))))), zk_99_zs1_61_X4_init_30), (43, (0, 0)))
theorem ev_X4_init_24 : f_X4_inita [zR 1, zR 2, zI 4, zI 6] h0_X4_init_24 (zrk (zU) h1_X4_init_24) = true := by decide +kernel
noncomputable def g_X4_init_24 {d : Nat} : List zV → zH d → zP d → Bool := zsmy [(0, 0), (0, 1)] [zR 1, zR 2, zI 4, zI 6] h0_X4_init_24 (zU) h1_X4_init_24
theorem mg_X4_init_24 {d : Nat} : zMet (d := d) X_X4_init yX4_init 10 g_X4_init_24 := zMet_sm m_X4_inita ev_X4_init_24
noncomputable def h0_X4_init_25 : zH 5 := (show zT 5 from ((((((20, 16, 0), (0, 6, 0x1000000000200000000020000000002)), zO1), zO2), zO3), zO4), (2, (64, 6000)))
noncomputable def zk_99_zs1_61_X4_init_38 : zC := (0, 6, 0x600000000050000000004000000000200000000030000000001)
noncomputable def zk_99_zs1_61_X4_init_39 : zC := (0, 6, 0x600000000040000000005000000000200000000030000000001)
noncomputable def zk_99_zs1_61_X4_init_40 : zC := (0, 6, 0x600000000030000000005000000000200000000040000000001)
noncomputable def h1_X4_init_25 : zH 5 := (show zT 5 from ((((((20, 16, 0x70000000006010000002500000000100000000011000000000f000000000e000000002400000000170000000008000000000500000000050000000004000000000300000000030000000006), (0, 6, 0x1000000000200000000020000000002)), ((0, 3, 0x200000000020000000002), (0, 2, 0x30000000003))), (((0, 3, 0x400000000020000000000), zk_99_zs1_61_X4_init_13), zk_99_zs1_61_X4_init_16)), ((zk_99_zs1_61_X4_init_20, (zk_99_zs1_61_X4_init_38, zk_99_zs1_61_X4_init_39)), ((zk_99_zs1_61_X4_init_40, (0, 216, zun 40 216 4294967299)), ((0, 36, zun 40 36 4294967296), zk_99_zs1_61_X4_init_28)))), (((((3, 5, 0x160000000015000000001400000000130000000012), (0, 36, 0)), ((0, 36, 0), (0, 36, 0))), (((0, 36, 0), (0, 36, 0)), zk_99_zs1_61_X4_init_11)), ((((0, 5, 0), (0, 5, 0)), ((0, 5, 0), (0, 5, 0))), zO2))), (28, (0, 0)))
theorem ev_X4_init_25 : f_X4_inita [zR 1, zR 2, zI 3, zI 6] h0_X4_init_25 (zrk (zU) h1_X4_init_25) = true := by decide +kernel
noncomputable def g_X4_init_25 {d : Nat} : List zV → zH d → zP d → Bool := zsmy [(0, 0), (0, 1)] [zR 1, zR 2, zI 3, zI 6] h0_X4_init_25 (zU) h1_X4_init_25
theorem mg_X4_init_25 {d : Nat} : zMet (d := d) X_X4_init yX4_init 10 g_X4_init_25 := zMet_sm m_X4_inita ev_X4_init_25
noncomputable def h0_X4_init_26 : zH 6 := (show zT 6 from (((((((20, 16, 0), (0, 6, 0x1000000000100000000020000000002)), zO1), zO2), zO3), zO4), zO5), (2, (64, 6000)))
noncomputable def h1_X4_init_26 : zH 6 := (show zT 6 from (((((((20, 16, 0x70000000006010000003100000000140000000015000000001300000000120000000030000000001f0000000008000000000900000000050000000004000000000300000000040000000006), (0, 6, 0x1000000000100000000020000000002)), ((0, 4, 0x1000000000100000000020000000002), (0, 2, 0x20000000004))), (((0, 4, 0x5000000000400000000020000000000), zk_99_zs1_61_X4_init_13), zk_99_zs1_61_X4_init_19)), ((zk_99_zs1_61_X4_init_20, (zk_99_zs1_61_X4_init_21, zk_99_zs1_61_X4_init_38)), ((zk_99_zs1_61_X4_init_39, (0, 6, 0x500000000040000000006000000000200000000030000000001)), (zk_99_zs1_61_X4_init_40, (0, 6, 0x500000000030000000006000000000200000000040000000001))))), (((((0, 6, 0x400000000030000000006000000000200000000050000000001), (0, 288, zun 40 288 4294967300)), ((0, 48, zun 40 48 4294967296), zk_99_zs1_61_X4_init_37)), ((zk_99_zs1_61_X4_init_24, (0, 48, 0)), ((0, 48, 0), (0, 48, 0)))), ((((0, 48, 0), (0, 48, 0)), ((0, 48, 0), (0, 48, 0))), (((0, 48, 0), (0, 48, 0)), zk_99_zs1_61_X4_init_25)))), zk_99_zs1_61_X4_init_26), (40, (0, 0)))
theorem ev_X4_init_26 : f_X4_inita [zR 1, zR 2, zI 4, zI 6] h0_X4_init_26 (zrk (zU) h1_X4_init_26) = true := by decide +kernel
noncomputable def g_X4_init_26 {d : Nat} : List zV → zH d → zP d → Bool := zsmy [(0, 0), (0, 1)] [zR 1, zR 2, zI 4, zI 6] h0_X4_init_26 (zU) h1_X4_init_26
theorem mg_X4_init_26 {d : Nat} : zMet (d := d) X_X4_init yX4_init 10 g_X4_init_26 := zMet_sm m_X4_inita ev_X4_init_26
noncomputable def h0_X4_init_27 : zH 5 := (show zT 5 from ((((((20, 16, 0), (0, 6, 0x10000000001000000000100000000010000000002)), zO1), zO2), zO3), zO4), (2, (64, 6000)))
noncomputable def h1_X4_init_27 : zH 5 := (show zT 5 from ((((((20, 16, 0x70000000006010000007900000000100000000011000000000f000000000e000000007800000000170000000008000000000500000000050000000004000000000300000000050000000006), (0, 6, 0x10000000001000000000100000000010000000002)), ((0, 5, 0x10000000001000000000100000000010000000002), (0, 2, 0x10000000005))), (((0, 5, 0x50000000004000000000300000000020000000000), zk_99_zs1_61_X4_init_13), zk_99_zs1_61_X4_init_16)), (((zk_99_zs1_61_X4_init_15, zk_99_zs1_61_X4_init_38), ((0, 6, 0x600000000050000000003000000000200000000040000000001), (0, 6, 0x600000000040000000003000000000200000000050000000001))), (((0, 6, 0x500000000040000000003000000000200000000060000000001), (0, 720, zun 40 720 4294967301)), ((0, 120, zun 40 120 4294967296), (0, 7, 0x271000000007d0000000019000000000500000000010000000000))))), (((((3, 5, 0x160000000015000000001400000000130000000012), (0, 120, 0)), ((0, 120, 0), (0, 120, 0))), (((0, 120, 0), (0, 120, 0)), zk_99_zs1_61_X4_init_11)), ((((0, 5, 0), (0, 5, 0)), ((0, 5, 0), (0, 5, 0))), zO2))), (28, (0, 0)))
theorem ev_X4_init_27 : f_X4_inita [zR 1, zR 2, zI 5, zI 6] h0_X4_init_27 (zrk (zU) h1_X4_init_27) = true := by decide +kernel
noncomputable def g_X4_init_27 {d : Nat} : List zV → zH d → zP d → Bool := zsmy [(0, 0), (0, 1)] [zR 1, zR 2, zI 5, zI 6] h0_X4_init_27 (zU) h1_X4_init_27
theorem mg_X4_init_27 {d : Nat} : zMet (d := d) X_X4_init yX4_init 10 g_X4_init_27 := zMet_sm m_X4_inita ev_X4_init_27
noncomputable def h0_X4_init_28 : zH 4 := (show zT 4 from (((((20, 16, 0), zk_99_zs1_61_X4_init_12), zO1), zO2), zO3), (2, (64, 6000)))
noncomputable def h1_X4_init_28 : zH 4 := (show zT 4 from (((((20, 16, 0x7000000000601000002d1000000000c000000000d000000000b000000000a00000002d0000000000f0000000008000000000100000000050000000004000000000300000000060000000006), zk_99_zs1_61_X4_init_12), (zk_99_zs1_61_X4_init_12, (0, 1, 6))), (((0, 6, 0x500000000040000000003000000000200000000010000000000), zk_99_zs1_61_X4_init_13), (zk_99_zs1_61_X4_init_14, (3, 1, 9)))), (((zk_99_zs1_61_X4_init_15, (0, 4320, zun 40 4320 4294967302)), ((0, 720, zun 40 720 4294967296), (0, 7, 0x51000000000d80000000024000000000600000000010000000000))), (((3, 1, 0xe), (0, 720, 0)), ((3, 1, 0x10), (0, 1, 0))))), (16, (0, 0)))
theorem ev_X4_init_28 : f_X4_inita [zR 1, zR 2, zI 6, zI 6] h0_X4_init_28 (zrk (zU) h1_X4_init_28) = true := by decide +kernel
noncomputable def g_X4_init_28 {d : Nat} : List zV → zH d → zP d → Bool := zsmy [(0, 0), (0, 1)] [zR 1, zR 2, zI 6, zI 6] h0_X4_init_28 (zU) h1_X4_init_28
theorem mg_X4_init_28 {d : Nat} : zMet (d := d) X_X4_init yX4_init 10 g_X4_init_28 := zMet_sm m_X4_inita ev_X4_init_28
noncomputable def g_X4_init {d : Nat} : List zV → zH d → zP d → Bool := (zor2 g_X4_init_0 (zor2 g_X4_init_1 (zor2 g_X4_init_2 (zor2 g_X4_init_3 (zor2 g_X4_init_4 (zor2 g_X4_init_5 (zor2 g_X4_init_6 (zor2 g_X4_init_7 (zor2 g_X4_init_8 (zor2 g_X4_init_9 (zor2 g_X4_init_10 (zor2 g_X4_init_11 (zor2 g_X4_init_12 (zor2 g_X4_init_13 (zor2 g_X4_init_14 (zor2 g_X4_init_15 (zor2 g_X4_init_16 (zor2 g_X4_init_17 (zor2 g_X4_init_18 (zor2 g_X4_init_19 (zor2 g_X4_init_20 (zor2 g_X4_init_21 (zor2 g_X4_init_22 (zor2 g_X4_init_23 (zor2 g_X4_init_24 (zor2 g_X4_init_25 (zor2 g_X4_init_26 (zor2 g_X4_init_27 (zor2 g_X4_init_28 (fun _ _ _ => false))))))))))))))))))))))))))))))
theorem mg_X4_init {d : Nat} : zMet (d := d) X_X4_init yX4_init 10 g_X4_init := (zMet_or mg_X4_init_0 (zMet_or mg_X4_init_1 (zMet_or mg_X4_init_2 (zMet_or mg_X4_init_3 (zMet_or mg_X4_init_4 (zMet_or mg_X4_init_5 (zMet_or mg_X4_init_6 (zMet_or mg_X4_init_7 (zMet_or mg_X4_init_8 (zMet_or mg_X4_init_9 (zMet_or mg_X4_init_10 (zMet_or mg_X4_init_11 (zMet_or mg_X4_init_12 (zMet_or mg_X4_init_13 (zMet_or mg_X4_init_14 (zMet_or mg_X4_init_15 (zMet_or mg_X4_init_16 (zMet_or mg_X4_init_17 (zMet_or mg_X4_init_18 (zMet_or mg_X4_init_19 (zMet_or mg_X4_init_20 (zMet_or mg_X4_init_21 (zMet_or mg_X4_init_22 (zMet_or mg_X4_init_23 (zMet_or mg_X4_init_24 (zMet_or mg_X4_init_25 (zMet_or mg_X4_init_26 (zMet_or mg_X4_init_27 (zMet_or mg_X4_init_28 zfalse)))))))))))))))))))))))))))))
end
section
/-! the class by summaries, by program -/
noncomputable def lX7_makeShapesa_18 {d : Nat} (P : zP d) (r18 : zK d) : zK d := (xild 3 (xald 0 (xgfI 23 1 (xcmpS tgeR rlGe rhS rlS rhLt (xvret P) (xald 0 (xgfR 23 3 (xild 3 (xnew 20 16 (xdup (xald 1 (xild 2 (xald 0 (xgfI 23 0 (xcV 20 4 64 6000 (zstr g_X4_init) (xaas 5 20 (xald 1 (xild 2 (xcS 2 0 0 (zstr f_X7_stepOn) (xist 2 (xincR 3 1 r18))))))))))))))))))))
set_option maxRecDepth 100000 in
set_option maxHeartbeats 4000000 in
theorem slX7_makeShapesa_18 {d : Nat} [zGh] (P : zP d) (r18 : zK d) (hr18 : zSimJ 1 X_X7_makeShapes 11 P 18 r18) : zSim X_X7_makeShapes 11 P 18 (lX7_makeShapesa_18 P r18) := by
  unfold lX7_makeShapesa_18
  refine sm_iload_n (pc := 18) (n := 3) dX7_makeShapes_18 rfl ?_
  refine sm_aload_n (pc := 19) (n := 0) dX7_makeShapes_19 rfl ?_
  refine gf_X7_19 (pc := 20) rfl dX7_makeShapes_20 ?_
  refine sm_icmpS_ge (pc := 23) (tgt := 57) dX7_makeShapes_23 (by decide) ?_ ?_
  · skip
    exact sm_vreturn (pc := 57) dX7_makeShapes_57 rfl
  · skip
    refine sm_aload_n (pc := 26) (n := 0) dX7_makeShapes_26 rfl ?_
    refine gf_X7_24 (pc := 27) rfl dX7_makeShapes_27 ?_
    refine sm_iload_n (pc := 30) (n := 3) dX7_makeShapes_30 rfl ?_
    refine sm_new (pc := 31) (ci := 4) (C := RX4) (T := TX4) (N := 16) (ty0 := tyX4) rfl rfl (by decide) (by decide) inz4 tyX4_ok rfl wd_54 wd_60 wd_4 dX7_makeShapes_31 ?_
    refine sm_dup (pc := 34) dX7_makeShapes_34 ?_
    refine sm_aload_n (pc := 35) (n := 1) dX7_makeShapes_35 rfl ?_
    refine sm_iload_n (pc := 36) (n := 2) dX7_makeShapes_36 rfl ?_
    refine sm_aload_n (pc := 37) (n := 0) dX7_makeShapes_37 rfl ?_
    refine gf_X7_9 (pc := 38) rfl dX7_makeShapes_38 ?_
    refine sm_cV (pc := 41) (ci := 4) (n := 4) (mc := 64) (ms := 6000) rfl (zMet_str mg_X4_init) (cr_X7_101 (X := X_X7_makeShapes) (fr := 11) (frc := 10) (pc := 41) (mc := 64) (ms := 6000) rfl (by decide) dX7_makeShapes_41) ?_
    refine sm_aastore (pc := 44) (kc := 5) (ci := 4) (by decide) (by decide) rfl rfl (fun _ => rfl) dX7_makeShapes_44 ?_
    refine sm_aload_n (pc := 45) (n := 1) dX7_makeShapes_45 rfl ?_
    refine sm_iload_n (pc := 46) (n := 2) dX7_makeShapes_46 rfl ?_
    refine sm_cS (pc := 47) (n := 2) (mc := 0) (ms := 0) (zMet_str m_X7_stepOn) (cr_X7_104 (X := X_X7_makeShapes) (fr := 11) (frc := 1) (pc := 47) (mc := 0) (ms := 0) rfl (by decide) dX7_makeShapes_47) ?_
    refine sm_istore_n (pc := 50) (n := 2) dX7_makeShapes_50 rfl ?_
    refine sm_iincR (pc := 51) (n := 3) dX7_makeShapes_51 zc_i_1 ?_
    refine sm_goto (pc := 54) (tgt := 18) dX7_makeShapes_54 (by decide) ?_
    exact hr18.use
noncomputable def b_X7_makeShapesa {d : Nat} (P : zP d) : zK d := (xald 0 (xgfI 23 0 (xnwa 0 (xast 1 (xald 1 (xpI 0 (xald 0 (xgfI 23 0 (xasQ 0 (fun v => v) (xpI 1 (xist 2 (xpI 0 (xist 3 (xloop (fun r18 => (lX7_makeShapesa_18 P r18)) 100000))))))))))))))
set_option maxRecDepth 100000 in
set_option maxHeartbeats 4000000 in
theorem s_X7_makeShapesa {d : Nat} [zGh] (P : zP d) : zSim X_X7_makeShapes 11 P 0 (b_X7_makeShapesa P) := by
  unfold b_X7_makeShapesa
  refine sm_aload_n (pc := 0) (n := 0) dX7_makeShapes_0 rfl ?_
  refine gf_X7_9 (pc := 1) rfl dX7_makeShapes_1 ?_
  refine sm_newI (pc := 4) dX7_makeShapes_4 wd_46 ?_
  refine sm_astore_n (pc := 6) (n := 1) dX7_makeShapes_6 rfl ?_
  refine sm_aload_n (pc := 7) (n := 1) dX7_makeShapes_7 rfl ?_
  refine sm_iconst (pc := 8) dX7_makeShapes_8 zc_i_0 ?_
  refine sm_aload_n (pc := 9) (n := 0) dX7_makeShapes_9 rfl ?_
  refine gf_X7_9 (pc := 10) rfl dX7_makeShapes_10 ?_
  refine sm_iastoreQ (pc := 13) dX7_makeShapes_13 ?_
  refine sm_iconst (pc := 14) dX7_makeShapes_14 zc_i_1 ?_
  refine sm_istore_n (pc := 15) (n := 2) dX7_makeShapes_15 rfl ?_
  refine sm_iconst (pc := 16) dX7_makeShapes_16 zc_i_0 ?_
  refine sm_istore_n (pc := 17) (n := 3) dX7_makeShapes_17 rfl ?_
  exact (sm_loopJ (j := 1) (fun G1 hG1 r18 hr18 => @slX7_makeShapesa_18 d G1 P r18 hr18) _).use
noncomputable def f_X7_makeShapesa {d : Nat} : List zV → zH d → zP d → Bool := zfn 4 b_X7_makeShapesa
theorem m_X7_makeShapesa {d : Nat} : zMet (d := d) X_X7_makeShapes yX7_makeShapes 11 f_X7_makeShapesa := zmet_mk (X := X_X7_makeShapes) (by decide) rfl rfl s_X7_makeShapesa

noncomputable def h0_X7_makeShapes_0 : zH 5 := (show zT 5 from ((((((23, 14, 0x2800000000300000000010000000001), (5, 1, 0)), zO1), zO2), zO3), zO4), (2, (720, 67000)))
noncomputable def h1_X7_makeShapes_0 : zH 5 := (show zT 5 from ((((((23, 14, 0x2800000000300000000010000000001), (5, 1, 4)), ((0, 1, 1), (20, 16, 0x900000000080100000002000000000e000000000f000000000d000000000c00000000010000000011000000000a000000000100000000070000000006000000000500000000010000000001))), (((0, 1, 1), (0, 1, 1)), ((0, 1, 0), (0, 1, 0x100000007)))), ((((0, 2, 0x1000000000100000000), (3, 1, 0xb)), ((0, 1, 1), (0, 1, 0x100000001))), (((0, 1, 0x100000000), (0, 2, 0)), ((3, 1, 0x10), (0, 1, 0))))), (((((3, 1, 0x12), (0, 1, 0)), zO1), zO2), zO3)), (18, (0, 0)))
theorem ev_X7_makeShapes_0 : f_X7_makeShapesa [zR 1] h0_X7_makeShapes_0 (zrk (zU) h1_X7_makeShapes_0) = true := by decide +kernel
noncomputable def g_X7_makeShapes_0 {d : Nat} : List zV → zH d → zP d → Bool := zsmy [(0, 0), (1, 3)] [zR 1] h0_X7_makeShapes_0 (zU) h1_X7_makeShapes_0
theorem mg_X7_makeShapes_0 {d : Nat} : zMet (d := d) X_X7_makeShapes yX7_makeShapes 11 g_X7_makeShapes_0 := zMet_sm m_X7_makeShapesa ev_X7_makeShapes_0
noncomputable def h0_X7_makeShapes_1 : zH 6 := (show zT 6 from (((((((23, 14, 0x2800000000300000000020000000002), (5, 2, 0)), zO1), zO2), zO3), zO4), zO5), (2, (720, 67000)))
noncomputable def h1_X7_makeShapes_1 : zH 6 := (show zT 6 from (((((((23, 14, 0x2800000000300000000020000000002), (5, 2, 0x130000000004)), ((0, 2, 0x10000000001), (20, 16, 0x900000000080100000002000000000e000000000f000000000d000000000c00000000010000000011000000000a000000000100000000070000000006000000000500000000010000000002))), (((0, 1, 2), (0, 2, 0x10000000001)), ((0, 1, 0), (0, 2, 0x1000000070100000007)))), ((((0, 3, 0x10000000001000000000100000000), (3, 1, 0xb)), ((0, 2, 0x20000000001), (0, 2, 0x1000000010100000001))), (((0, 1, 0x100000000), (0, 3, 0x10000000000)), ((3, 1, 0x10), (0, 1, 0))))), (((((3, 1, 0x12), (0, 1, 0)), ((20, 16, 0x1800000000170100000003000000001d000000001e000000001c000000001b000000000200000000200000000019000000000100000000160000000015000000001400000000020000000002), (0, 2, 0x10000000001))), (((0, 1, 2), (0, 2, 0x10000000000)), ((0, 2, 0x1000000070100000007), (0, 3, 0x10000000001000000000100000000)))), ((((3, 1, 0x1a), (0, 2, 0x20000000001)), ((0, 4, 0x100000002010000000201000000020100000002), (0, 2, 0x1000000000100000000))), (((0, 3, 0x10000000000), (3, 1, 0x1f)), ((0, 2, 0), (3, 1, 0x21)))))), ((((((0, 1, 0), (0, 0, 0)), zO1), zO2), zO3), zO4)), (33, (0, 0)))
theorem ev_X7_makeShapes_1 : f_X7_makeShapesa [zR 1] h0_X7_makeShapes_1 (zrk (zU) h1_X7_makeShapes_1) = true := by decide +kernel
noncomputable def g_X7_makeShapes_1 {d : Nat} : List zV → zH d → zP d → Bool := zsmy [(0, 0), (1, 3)] [zR 1] h0_X7_makeShapes_1 (zU) h1_X7_makeShapes_1
theorem mg_X7_makeShapes_1 {d : Nat} : zMet (d := d) X_X7_makeShapes yX7_makeShapes 11 g_X7_makeShapes_1 := zMet_sm m_X7_makeShapesa ev_X7_makeShapes_1
noncomputable def h0_X7_makeShapes_2 : zH 6 := (show zT 6 from (((((((23, 14, 0x2800000000300000000030000000003), (5, 3, 0)), zO1), zO2), zO3), zO4), zO5), (2, (720, 67000)))
noncomputable def zk_99_zs1_62_X7_makeShapes_0 : zT 1 := @Prod.mk (zT 0) (zT 0) (0, 3, 0x10000000701000000070100000007) (0, 4, 0x100000000010000000001000000000100000000)
noncomputable def zk_99_zs1_62_X7_makeShapes_1 : zC := (0, 6, 0x10000000001000000000100000000010000000001000000000100000000)
noncomputable def h1_X7_makeShapes_2 : zH 6 := (show zT 6 from (((((((23, 14, 0x2800000000300000000030000000003), (5, 3, 0x2500000000130000000004)), ((0, 3, 0x100000000010000000001), (20, 16, 0x900000000080100000002000000000e000000000f000000000d000000000c00000000010000000011000000000a000000000100000000070000000006000000000500000000010000000003))), (((0, 1, 3), (0, 3, 0x100000000010000000001)), ((0, 1, 0), (0, 3, 0x10000000701000000070100000007)))), ((((0, 4, 0x100000000010000000001000000000100000000), (3, 1, 0xb)), ((0, 3, 0x300000000020000000001), (0, 3, 0x10000000101000000010100000001))), (((0, 1, 0x100000000), (0, 4, 0x100000000010000000000)), ((3, 1, 0x10), (0, 1, 0))))), (((((3, 1, 0x12), (0, 1, 0)), ((20, 16, 0x1800000000170100000003000000001e000000001f000000001d000000001c000000000200000000220000000019000000000200000000160000000015000000001400000000020000000003), (0, 2, 0x10000000002))), (((0, 2, 0x10000000002), (0, 2, 0x20000000000)), zk_99_zs1_62_X7_makeShapes_0)), ((((3, 2, 0x1b000000001a), (0, 3, 0x300000000020000000001)), ((0, 3, 0x200000000030000000001), (0, 6, 0x10000000201000000020100000002010000000201000000020100000002))), (((0, 2, 0x1000000000100000000), (0, 4, 0x200000000010000000000)), ((3, 2, 0x210000000020), (0, 2, 0)))))), ((((((0, 2, 0), (3, 2, 0x240000000023)), ((0, 2, 0), (0, 2, 0))), (((20, 16, 0x2a00000000290100000007000000002f0000000030000000002e000000002d00000000060000000032000000002b000000000100000000280000000027000000002600000000030000000003), (0, 3, 0x100000000010000000001)), ((0, 1, 3), (0, 3, 0x200000000010000000000)))), ((zk_99_zs1_62_X7_makeShapes_0, ((3, 1, 0x2c), (0, 3, 0x300000000020000000001))), (((0, 18, zun 40 18 4294967299), zk_99_zs1_62_X7_makeShapes_1), ((0, 4, 0x300000000010000000000), (3, 1, 0x31))))), (((((0, 6, 0), (3, 1, 0x33)), ((0, 1, 0), (0, 0, 0))), zO2), zO3))), (51, (0, 0)))
theorem ev_X7_makeShapes_2 : f_X7_makeShapesa [zR 1] h0_X7_makeShapes_2 (zrk (zU) h1_X7_makeShapes_2) = true := by decide +kernel
noncomputable def g_X7_makeShapes_2 {d : Nat} : List zV → zH d → zP d → Bool := zsmy [(0, 0), (1, 3)] [zR 1] h0_X7_makeShapes_2 (zU) h1_X7_makeShapes_2
theorem mg_X7_makeShapes_2 {d : Nat} : zMet (d := d) X_X7_makeShapes yX7_makeShapes 11 g_X7_makeShapes_2 := zMet_sm m_X7_makeShapesa ev_X7_makeShapes_2
noncomputable def h0_X7_makeShapes_3 : zH 7 := (show zT 7 from ((((((((23, 14, 0x2800000000300000000050000000004), (5, 5, 0)), zO1), zO2), zO3), zO4), zO5), zO6), (2, (720, 67000)))
noncomputable def zk_99_zs1_62_X7_makeShapes_2 : zT 1 := @Prod.mk (zT 0) (zT 0) (0, 4, 0x100000007010000000701000000070100000007) (0, 5, 0x1000000000100000000010000000001000000000100000000)
noncomputable def zk_99_zs1_62_X7_makeShapes_3 : zT 1 := @Prod.mk (zT 0) (zT 0) (0, 4, 0x4000000000300000000020000000001) (0, 4, 0x4000000000200000000030000000001)
noncomputable def h1_X7_makeShapes_3 : zH 7 := (show zT 7 from ((((((((23, 14, 0x2800000000300000000050000000004), (5, 5, 0x4f000000003a000000002800000000130000000004)), ((0, 4, 0x1000000000100000000010000000001), (20, 16, 0x900000000080100000002000000000e000000000f000000000d000000000c00000000010000000011000000000a000000000100000000070000000006000000000500000000010000000004))), (((0, 1, 4), (0, 4, 0x1000000000100000000010000000001)), ((0, 1, 0), (0, 4, 0x100000007010000000701000000070100000007)))), ((((0, 5, 0x1000000000100000000010000000001000000000100000000), (3, 1, 0xb)), ((0, 4, 0x4000000000300000000020000000001), (0, 4, 0x100000001010000000101000000010100000001))), (((0, 1, 0x100000000), (0, 5, 0x1000000000100000000010000000000)), ((3, 1, 0x10), (0, 1, 0))))), (((((3, 1, 0x12), (0, 1, 0)), ((20, 16, 0x1800000000170100000003000000001f0000000020000000001e000000001d000000000200000000240000000019000000000300000000160000000015000000001400000000020000000004), (0, 2, 0x10000000003))), (((0, 3, 0x100000000010000000002), (0, 2, 0x30000000000)), zk_99_zs1_62_X7_makeShapes_2)), ((((3, 3, 0x1c000000001b000000001a), (0, 4, 0x4000000000300000000020000000001)), ((0, 4, 0x3000000000400000000020000000001), (0, 4, 0x2000000000400000000030000000001))), (((0, 8, zun 40 8 4294967298), (0, 2, 0x1000000000100000000)), ((0, 5, 0x4000000000200000000010000000000), (3, 3, 0x2300000000220000000021)))))), ((((((0, 2, 0), (0, 2, 0)), ((0, 2, 0), (3, 3, 0x2700000000260000000025))), (((0, 3, 0), (0, 3, 0)), ((0, 3, 0), (20, 16, 0x2d000000002c0100000005000000003300000000340000000032000000003100000000040000000037000000002e0000000002000000002b000000002a000000002900000000020000000004)))), ((((0, 2, 0x20000000002), (0, 2, 0x20000000002)), ((0, 2, 0x20000000000), (0, 4, 0x100000007010000000701000000070100000007))), (((0, 5, 0x1000000000100000000010000000001000000000100000000), (3, 2, 0x30000000002f)), zk_99_zs1_62_X7_makeShapes_3))), (((((0, 16, zun 40 16 4294967298), (0, 4, 0x100000000010000000001000000000100000000)), ((0, 5, 0x4000000000200000000010000000000), (3, 2, 0x360000000035))), (((0, 4, 0), (0, 4, 0)), ((3, 2, 0x390000000038), (0, 2, 0)))), ((((0, 2, 0), (20, 16, 0x3f000000003e010000000700000000460000000047000000004500000000440000000006000000004b00000000400000000003000000003d000000003c000000003b00000000030000000004)), ((0, 3, 0x100000000010000000002), (0, 2, 0x10000000003))), (((0, 3, 0x300000000020000000000), (0, 4, 0x100000007010000000701000000070100000007)), ((0, 5, 0x1000000000100000000010000000001000000000100000000), (3, 3, 0x4300000000420000000041))))))), (((((zk_99_zs1_62_X7_makeShapes_3, ((0, 4, 0x3000000000200000000040000000001), (0, 24, zun 40 24 4294967299))), ((zk_99_zs1_62_X7_makeShapes_1, (0, 5, 0x9000000000300000000010000000000)), ((3, 3, 0x4a00000000490000000048), (0, 6, 0)))), ((((0, 6, 0), (0, 6, 0)), ((3, 3, 0x4e000000004d000000004c), (0, 3, 0))), (((0, 3, 0), (0, 3, 0)), ((20, 16, 0x54000000005301000000190000000059000000005a000000005800000000570000000018000000005c0000000055000000000100000000520000000051000000005000000000040000000004), (0, 4, 0x1000000000100000000010000000001))))), (((((0, 1, 4), (0, 4, 0x3000000000200000000010000000000)), zk_99_zs1_62_X7_makeShapes_2), (((3, 1, 0x56), (0, 4, 0x4000000000300000000020000000001)), ((0, 96, zun 40 96 4294967300), (0, 24, zun 40 24 4294967296)))), ((((0, 5, 0x10000000000400000000010000000000), (3, 1, 0x5b)), ((0, 24, 0), (3, 1, 0x5d))), (((0, 1, 0), (0, 0, 0)), zO1)))), zO5)), (93, (0, 0)))
theorem ev_X7_makeShapes_3 : f_X7_makeShapesa [zR 1] h0_X7_makeShapes_3 (zrk (zU) h1_X7_makeShapes_3) = true := by decide +kernel
noncomputable def g_X7_makeShapes_3 {d : Nat} : List zV → zH d → zP d → Bool := zsmy [(0, 0), (1, 3)] [zR 1] h0_X7_makeShapes_3 (zU) h1_X7_makeShapes_3
theorem mg_X7_makeShapes_3 {d : Nat} : zMet (d := d) X_X7_makeShapes yX7_makeShapes 11 g_X7_makeShapes_3 := zMet_sm m_X7_makeShapesa ev_X7_makeShapes_3
noncomputable def h0_X7_makeShapes_4 : zH 8 := (show zT 8 from (((((((((23, 14, 0x2800000000300000000070000000005), (5, 7, 0)), zO1), zO2), zO3), zO4), zO5), zO6), zO7), (2, (720, 67000)))
noncomputable def zk_99_zs1_62_X7_makeShapes_4 : zT 1 := @Prod.mk (zT 0) (zT 0) (0, 5, 0x1000000070100000007010000000701000000070100000007) zk_99_zs1_62_X7_makeShapes_1
noncomputable def h1_X7_makeShapes_4 : zH 8 := (show zT 8 from (((((((((23, 14, 0x2800000000300000000070000000005), (5, 7, 0x97000000007f00000000640000000046000000002b00000000130000000004)), ((0, 5, 0x10000000001000000000100000000010000000001), (20, 16, 0x900000000080100000002000000000e000000000f000000000d000000000c00000000010000000011000000000a000000000100000000070000000006000000000500000000010000000005))), (((0, 1, 5), (0, 5, 0x10000000001000000000100000000010000000001)), ((0, 1, 0), (0, 5, 0x1000000070100000007010000000701000000070100000007)))), (((zk_99_zs1_62_X7_makeShapes_1, (3, 1, 0xb)), ((0, 5, 0x50000000004000000000300000000020000000001), (0, 5, 0x1000000010100000001010000000101000000010100000001))), (((0, 1, 0x100000000), (0, 6, 0x10000000001000000000100000000010000000000)), ((3, 1, 0x10), (0, 1, 0))))), (((((3, 1, 0x12), (0, 1, 0)), ((20, 16, 0x180000000017010000000300000000200000000021000000001f000000001e000000000200000000260000000019000000000400000000160000000015000000001400000000020000000005), (0, 2, 0x10000000004))), (((0, 4, 0x1000000000100000000010000000002), (0, 2, 0x40000000000)), zk_99_zs1_62_X7_makeShapes_4)), ((((3, 4, 0x1d000000001c000000001b000000001a), (0, 5, 0x50000000004000000000300000000020000000001)), ((0, 5, 0x40000000005000000000300000000020000000001), (0, 5, 0x30000000005000000000400000000020000000001))), (((0, 5, 0x20000000005000000000400000000030000000001), (0, 10, zun 40 10 4294967298)), ((0, 2, 0x1000000000100000000), (0, 6, 0x80000000004000000000200000000010000000000)))))), ((((((3, 4, 0x25000000002400000000230000000022), (0, 2, 0)), ((0, 2, 0), (0, 2, 0))), (((0, 2, 0), (3, 4, 0x2a000000002900000000280000000027)), ((0, 4, 0), (0, 4, 0)))), ((((0, 4, 0), (0, 4, 0)), ((20, 16, 0x30000000002f01000000050000000039000000003a000000003800000000370000000004000000004000000000310000000005000000002e000000002d000000002c00000000020000000005), (0, 2, 0x20000000003))), (((0, 3, 0x100000000020000000002), (0, 2, 0x30000000000)), zk_99_zs1_62_X7_makeShapes_4))), (((((3, 5, 0x360000000035000000003400000000330000000032), (0, 5, 0x50000000004000000000300000000020000000001)), ((0, 5, 0x50000000003000000000400000000020000000001), (0, 5, 0x40000000003000000000500000000020000000001))), (((0, 5, 0x50000000002000000000400000000030000000001), (0, 5, 0x40000000002000000000500000000030000000001)), ((0, 20, zun 40 20 4294967298), (0, 4, 0x100000000010000000001000000000100000000)))), ((((0, 6, 0x80000000004000000000200000000010000000000), (3, 5, 0x3f000000003e000000003d000000003c000000003b)), ((0, 4, 0), (0, 4, 0))), (((0, 4, 0), (0, 4, 0)), ((0, 4, 0), (3, 5, 0x450000000044000000004300000000420000000041))))))), (((((((0, 5, 0), (0, 5, 0)), ((0, 5, 0), (0, 5, 0))), (((0, 5, 0), (20, 16, 0x4b000000004a010000000700000000550000000056000000005400000000530000000006000000005d000000004c000000000600000000490000000048000000004700000000030000000005)), ((0, 3, 0x100000000010000000003), (0, 3, 0x100000000010000000003)))), ((((0, 3, 0x400000000030000000000), (0, 5, 0x1000000070100000007010000000701000000070100000007)), (zk_99_zs1_62_X7_makeShapes_1, (3, 6, 0x5200000000510000000050000000004f000000004e000000004d))), (((0, 5, 0x50000000004000000000300000000020000000001), (0, 5, 0x50000000003000000000400000000020000000001)), ((0, 5, 0x40000000003000000000500000000020000000001), (0, 5, 0x50000000002000000000400000000030000000001))))), (((((0, 5, 0x40000000002000000000500000000030000000001), (0, 5, 0x30000000002000000000500000000040000000001)), ((0, 30, zun 40 30 4294967299), zk_99_zs1_62_X7_makeShapes_1)), (((0, 6, 0x1b0000000009000000000300000000010000000000), (3, 6, 0x5c000000005b000000005a000000005900000000580000000057)), ((0, 6, 0), (0, 6, 0)))), ((((0, 6, 0), (0, 6, 0)), ((0, 6, 0), (0, 6, 0))), (((3, 6, 0x63000000006200000000610000000060000000005f000000005e), (0, 6, 0)), ((0, 6, 0), (0, 6, 0)))))), ((((((0, 6, 0), (0, 6, 0)), ((0, 6, 0), (20, 16, 0x690000000068010000000d0000000072000000007300000000710000000070000000000c0000000079000000006a000000000500000000670000000066000000006500000000030000000005))), (((0, 3, 0x100000000020000000002), (0, 2, 0x20000000003)), ((0, 3, 0x400000000020000000000), (0, 5, 0x1000000070100000007010000000701000000070100000007)))), (((zk_99_zs1_62_X7_makeShapes_1, (3, 5, 0x6f000000006e000000006d000000006c000000006b)), ((0, 5, 0x50000000004000000000300000000020000000001), (0, 5, 0x40000000005000000000300000000020000000001))), (((0, 5, 0x50000000004000000000200000000030000000001), (0, 5, 0x40000000005000000000200000000030000000001)), ((0, 5, 0x30000000005000000000200000000040000000001), (0, 60, zun 40 60 4294967299))))), (((((0, 12, zun 40 12 4294967296), (0, 6, 0x1b0000000009000000000300000000010000000000)), ((3, 5, 0x780000000077000000007600000000750000000074), (0, 12, 0))), (((0, 12, 0), (0, 12, 0)), ((0, 12, 0), (0, 12, 0)))), ((((3, 5, 0x7e000000007d000000007c000000007b000000007a), (0, 5, 0)), ((0, 5, 0), (0, 5, 0))), (((0, 5, 0), (0, 5, 0)), ((20, 16, 0x8400000000830100000019000000008c000000008d000000008b000000008a000000001800000000920000000085000000000400000000820000000081000000008000000000040000000005), (0, 4, 0x1000000000100000000010000000002)))))))), ((((((((0, 2, 0x10000000004), (0, 4, 0x4000000000300000000020000000000)), zk_99_zs1_62_X7_makeShapes_4), (((3, 4, 0x89000000008800000000870000000086), (0, 5, 0x50000000004000000000300000000020000000001)), ((0, 5, 0x50000000004000000000200000000030000000001), (0, 5, 0x50000000003000000000200000000040000000001)))), ((((0, 5, 0x40000000003000000000200000000050000000001), (0, 120, zun 40 120 4294967300)), ((0, 24, zun 40 24 4294967296), (0, 6, 0x400000000010000000000400000000010000000000))), (((3, 4, 0x910000000090000000008f000000008e), (0, 24, 0)), ((0, 24, 0), (0, 24, 0))))), (((((0, 24, 0), (3, 4, 0x96000000009500000000940000000093)), ((0, 4, 0), (0, 4, 0))), (((0, 4, 0), (0, 4, 0)), ((20, 16, 0x9c000000009b010000007900000000a100000000a200000000a0000000009f000000007800000000a4000000009d0000000001000000009a0000000099000000009800000000050000000005), (0, 5, 0x10000000001000000000100000000010000000001)))), ((((0, 1, 5), (0, 5, 0x40000000003000000000200000000010000000000)), zk_99_zs1_62_X7_makeShapes_4), (((3, 1, 0x9e), (0, 5, 0x50000000004000000000300000000020000000001)), ((0, 600, zun 40 600 4294967301), (0, 120, zun 40 120 4294967296)))))), ((((((0, 6, 0x7d0000000019000000000500000000010000000000), (3, 1, 0xa3)), ((0, 120, 0), (3, 1, 0xa5))), (((0, 1, 0), (0, 0, 0)), zO1)), zO3), zO4)), zO6)), (165, (0, 0)))
theorem ev_X7_makeShapes_4 : f_X7_makeShapesa [zR 1] h0_X7_makeShapes_4 (zrk (zU) h1_X7_makeShapes_4) = true := by decide +kernel
noncomputable def g_X7_makeShapes_4 {d : Nat} : List zV → zH d → zP d → Bool := zsmy [(0, 0), (1, 3)] [zR 1] h0_X7_makeShapes_4 (zU) h1_X7_makeShapes_4
theorem mg_X7_makeShapes_4 {d : Nat} : zMet (d := d) X_X7_makeShapes yX7_makeShapes 11 g_X7_makeShapes_4 := zMet_sm m_X7_makeShapesa ev_X7_makeShapes_4
noncomputable def h0_X7_makeShapes_5 : zH 9 := (show zT 9 from ((((((((((23, 14, 0x28000000003000000000b0000000006), (5, 11, 0)), zO1), zO2), zO3), zO4), zO5), zO6), zO7), zO8), (2, (720, 67000)))
noncomputable def zk_99_zs1_62_X7_makeShapes_5 : zC := (0, 6, 0x100000000010000000001000000000100000000010000000001)
noncomputable def zk_99_zs1_62_X7_makeShapes_6 : zC := (0, 6, 0x10000000701000000070100000007010000000701000000070100000007)
noncomputable def zk_99_zs1_62_X7_makeShapes_7 : zC := (0, 7, 0x100000000010000000001000000000100000000010000000001000000000100000000)
noncomputable def zk_99_zs1_62_X7_makeShapes_8 : zC := (0, 6, 0x600000000050000000004000000000300000000020000000001)
noncomputable def zk_99_zs1_62_X7_makeShapes_9 : zT 1 := @Prod.mk (zT 0) (zT 0) zk_99_zs1_62_X7_makeShapes_6 zk_99_zs1_62_X7_makeShapes_7
noncomputable def zk_99_zs1_62_X7_makeShapes_10 : zC := (0, 6, 0x500000000060000000004000000000300000000020000000001)
noncomputable def zk_99_zs1_62_X7_makeShapes_11 : zC := (0, 7, 0x1000000000080000000004000000000200000000010000000000)
noncomputable def zk_99_zs1_62_X7_makeShapes_12 : zC := (0, 6, 0x600000000040000000005000000000300000000020000000001)
noncomputable def zk_99_zs1_62_X7_makeShapes_13 : zT 1 := @Prod.mk (zT 0) (zT 0) zk_99_zs1_62_X7_makeShapes_8 zk_99_zs1_62_X7_makeShapes_12
noncomputable def zk_99_zs1_62_X7_makeShapes_14 : zC := (0, 6, 0x500000000040000000006000000000300000000020000000001)
noncomputable def zk_99_zs1_62_X7_makeShapes_15 : zC := (0, 6, 0x600000000030000000005000000000400000000020000000001)
noncomputable def zk_99_zs1_62_X7_makeShapes_16 : zC := (0, 6, 0x500000000030000000006000000000400000000020000000001)
noncomputable def zk_99_zs1_62_X7_makeShapes_17 : zC := (0, 6, 0x400000000030000000006000000000500000000020000000001)
noncomputable def zk_99_zs1_62_X7_makeShapes_18 : zC := (0, 6, 0x600000000020000000005000000000400000000030000000001)
noncomputable def zk_99_zs1_62_X7_makeShapes_19 : zC := (0, 6, 0x500000000020000000006000000000400000000030000000001)
noncomputable def zk_99_zs1_62_X7_makeShapes_20 : zC := (0, 6, 0x400000000020000000006000000000500000000030000000001)
noncomputable def zk_99_zs1_62_X7_makeShapes_21 : zT 1 := @Prod.mk (zT 0) (zT 0) zk_99_zs1_62_X7_makeShapes_12 zk_99_zs1_62_X7_makeShapes_14
noncomputable def zk_99_zs1_62_X7_makeShapes_22 : zC := (0, 7, 0x51000000001b0000000009000000000300000000010000000000)
noncomputable def zk_99_zs1_62_X7_makeShapes_23 : zC := (0, 6, 0x600000000050000000003000000000400000000020000000001)
noncomputable def zk_99_zs1_62_X7_makeShapes_24 : zC := (0, 6, 0x600000000040000000003000000000500000000020000000001)
noncomputable def zk_99_zs1_62_X7_makeShapes_25 : zC := (0, 6, 0x600000000050000000002000000000400000000030000000001)
noncomputable def zk_99_zs1_62_X7_makeShapes_26 : zC := (0, 6, 0x600000000040000000002000000000500000000030000000001)
noncomputable def zk_99_zs1_62_X7_makeShapes_27 : zT 1 := @Prod.mk (zT 0) (zT 0) zk_99_zs1_62_X7_makeShapes_25 zk_99_zs1_62_X7_makeShapes_26
noncomputable def zk_99_zs1_62_X7_makeShapes_28 : zC := (0, 6, 0x500000000040000000003000000000600000000020000000001)
noncomputable def zk_99_zs1_62_X7_makeShapes_29 : zC := (0, 6, 0x500000000040000000002000000000600000000030000000001)
noncomputable def zk_99_zs1_62_X7_makeShapes_30 : zC := (0, 7, 0x10000000000400000000010000000000400000000010000000000)
noncomputable def zk_99_zs1_62_X7_makeShapes_31 : zC := (0, 6, 0x600000000050000000004000000000200000000030000000001)
noncomputable def zk_99_zs1_62_X7_makeShapes_32 : zT 1 := @Prod.mk (zT 0) (zT 0) zk_99_zs1_62_X7_makeShapes_31 (0, 6, 0x600000000040000000005000000000200000000030000000001)
noncomputable def zk_99_zs1_62_X7_makeShapes_33 : zC := (0, 6, 0x600000000030000000005000000000200000000040000000001)
noncomputable def h1_X7_makeShapes_5 : zH 9 := (show zT 9 from ((((((((((23, 14, 0x28000000003000000000b0000000006), (5, 11, 0x15d0000000142000000011b000000010000000000d6000000009a000000007f0000000055000000002e00000000130000000004)), (zk_99_zs1_62_X7_makeShapes_5, (20, 16, 0x900000000080100000002000000000e000000000f000000000d000000000c00000000010000000011000000000a000000000100000000070000000006000000000500000000010000000006))), (((0, 1, 6), zk_99_zs1_62_X7_makeShapes_5), ((0, 1, 0), zk_99_zs1_62_X7_makeShapes_6))), (((zk_99_zs1_62_X7_makeShapes_7, (3, 1, 0xb)), (zk_99_zs1_62_X7_makeShapes_8, (0, 6, 0x10000000101000000010100000001010000000101000000010100000001))), (((0, 1, 0x100000000), (0, 7, 0x100000000010000000001000000000100000000010000000000)), ((3, 1, 0x10), (0, 1, 0))))), (((((3, 1, 0x12), (0, 1, 0)), ((20, 16, 0x1800000000170100000003000000002100000000220000000020000000001f000000000200000000280000000019000000000500000000160000000015000000001400000000020000000006), (0, 2, 0x10000000005))), (((0, 5, 0x10000000001000000000100000000010000000002), (0, 2, 0x50000000000)), zk_99_zs1_62_X7_makeShapes_9)), ((((3, 5, 0x1e000000001d000000001c000000001b000000001a), zk_99_zs1_62_X7_makeShapes_8), (zk_99_zs1_62_X7_makeShapes_10, (0, 6, 0x400000000060000000005000000000300000000020000000001))), (((0, 6, 0x300000000060000000005000000000400000000020000000001), (0, 6, 0x200000000060000000005000000000400000000030000000001)), ((0, 12, zun 40 12 4294967298), (0, 2, 0x1000000000100000000)))))), (((((zk_99_zs1_62_X7_makeShapes_11, (3, 5, 0x270000000026000000002500000000240000000023)), ((0, 2, 0), (0, 2, 0))), (((0, 2, 0), (0, 2, 0)), ((0, 2, 0), (3, 5, 0x2d000000002c000000002b000000002a0000000029)))), ((((0, 5, 0), (0, 5, 0)), ((0, 5, 0), (0, 5, 0))), (((0, 5, 0), (20, 16, 0x330000000032010000000500000000400000000041000000003f000000003e0000000004000000004b0000000034000000000900000000310000000030000000002f00000000020000000006)), ((0, 2, 0x20000000004), (0, 4, 0x1000000000100000000020000000002))))), (((((0, 2, 0x40000000000), zk_99_zs1_62_X7_makeShapes_6), (zk_99_zs1_62_X7_makeShapes_7, (3, 9, 0x3d000000003c000000003b000000003a00000000390000000038000000003700000000360000000035))), (zk_99_zs1_62_X7_makeShapes_13, (zk_99_zs1_62_X7_makeShapes_14, zk_99_zs1_62_X7_makeShapes_15))), (((zk_99_zs1_62_X7_makeShapes_16, zk_99_zs1_62_X7_makeShapes_17), (zk_99_zs1_62_X7_makeShapes_18, zk_99_zs1_62_X7_makeShapes_19)), ((zk_99_zs1_62_X7_makeShapes_20, (0, 24, zun 40 24 4294967298)), ((0, 4, 0x100000000010000000001000000000100000000), zk_99_zs1_62_X7_makeShapes_11)))))), (((((((3, 9, 0x4a00000000490000000048000000004700000000460000000045000000004400000000430000000042), (0, 4, 0)), ((0, 4, 0), (0, 4, 0))), (((0, 4, 0), (0, 4, 0)), ((0, 4, 0), (0, 4, 0)))), ((((0, 4, 0), (0, 4, 0)), ((3, 9, 0x540000000053000000005200000000510000000050000000004f000000004e000000004d000000004c), (0, 9, 0))), (((0, 9, 0), (0, 9, 0)), ((0, 9, 0), (0, 9, 0))))), (((((0, 9, 0), (0, 9, 0)), ((0, 9, 0), (0, 9, 0))), (((20, 16, 0x5a00000000590100000007000000006800000000690000000067000000006600000000060000000074000000005b000000000a00000000580000000057000000005600000000030000000006), (0, 3, 0x100000000010000000004)), ((0, 4, 0x1000000000100000000010000000003), (0, 3, 0x500000000040000000000)))), ((zk_99_zs1_62_X7_makeShapes_9, ((3, 10, 0x6500000000640000000063000000006200000000610000000060000000005f000000005e000000005d000000005c), zk_99_zs1_62_X7_makeShapes_8)), (zk_99_zs1_62_X7_makeShapes_21, (zk_99_zs1_62_X7_makeShapes_15, zk_99_zs1_62_X7_makeShapes_16))))), (((((zk_99_zs1_62_X7_makeShapes_17, zk_99_zs1_62_X7_makeShapes_18), (zk_99_zs1_62_X7_makeShapes_19, zk_99_zs1_62_X7_makeShapes_20)), (((0, 6, 0x300000000020000000006000000000500000000040000000001), (0, 36, zun 40 36 4294967299)), (zk_99_zs1_62_X7_makeShapes_1, zk_99_zs1_62_X7_makeShapes_22))), ((((3, 10, 0x73000000007200000000710000000070000000006f000000006e000000006d000000006c000000006b000000006a), (0, 6, 0)), ((0, 6, 0), (0, 6, 0))), (((0, 6, 0), (0, 6, 0)), ((0, 6, 0), (0, 6, 0))))), (((((0, 6, 0), (0, 6, 0)), ((0, 6, 0), (3, 10, 0x7e000000007d000000007c000000007b000000007a00000000790000000078000000007700000000760000000075))), (((0, 10, 0), (0, 10, 0)), ((0, 10, 0), (0, 10, 0)))), ((((0, 10, 0), (0, 10, 0)), ((0, 10, 0), (0, 10, 0))), (((0, 10, 0), (0, 10, 0)), ((20, 16, 0x8400000000830100000009000000008d000000008e000000008c000000008b000000000800000000940000000085000000000500000000820000000081000000008000000000020000000006), (0, 2, 0x30000000003)))))))), ((((((((0, 3, 0x200000000020000000002), (0, 2, 0x30000000000)), zk_99_zs1_62_X7_makeShapes_9), (((3, 5, 0x8a0000000089000000008800000000870000000086), zk_99_zs1_62_X7_makeShapes_8), (zk_99_zs1_62_X7_makeShapes_23, zk_99_zs1_62_X7_makeShapes_24))), ((zk_99_zs1_62_X7_makeShapes_27, ((0, 48, zun 40 48 4294967298), (0, 8, zun 40 8 4294967296))), ((zk_99_zs1_62_X7_makeShapes_11, (3, 5, 0x93000000009200000000910000000090000000008f)), ((0, 8, 0), (0, 8, 0))))), (((((0, 8, 0), (0, 8, 0)), ((0, 8, 0), (3, 5, 0x990000000098000000009700000000960000000095))), (((0, 5, 0), (0, 5, 0)), ((0, 5, 0), (0, 5, 0)))), ((((0, 5, 0), (20, 16, 0x9f000000009e010000000d00000000b300000000b400000000b200000000b1000000000c00000000c500000000a00000000010000000009d000000009c000000009b00000000030000000006)), ((0, 3, 0x100000000020000000003), (0, 3, 0x100000000020000000003))), (((0, 3, 0x500000000030000000000), zk_99_zs1_62_X7_makeShapes_6), (zk_99_zs1_62_X7_makeShapes_7, (3, 16, 0xb000000000af00000000ae00000000ad00000000ac00000000ab00000000aa00000000a900000000a800000000a700000000a600000000a500000000a400000000a300000000a200000000a1)))))), (((((zk_99_zs1_62_X7_makeShapes_8, zk_99_zs1_62_X7_makeShapes_10), (zk_99_zs1_62_X7_makeShapes_23, (0, 6, 0x500000000060000000003000000000400000000020000000001))), ((zk_99_zs1_62_X7_makeShapes_24, (0, 6, 0x400000000060000000003000000000500000000020000000001)), (zk_99_zs1_62_X7_makeShapes_28, (0, 6, 0x400000000050000000003000000000600000000020000000001)))), (((zk_99_zs1_62_X7_makeShapes_25, (0, 6, 0x500000000060000000002000000000400000000030000000001)), (zk_99_zs1_62_X7_makeShapes_26, (0, 6, 0x400000000060000000002000000000500000000030000000001))), ((zk_99_zs1_62_X7_makeShapes_29, (0, 6, 0x400000000050000000002000000000600000000030000000001)), ((0, 6, 0x300000000060000000002000000000500000000040000000001), (0, 6, 0x300000000050000000002000000000600000000040000000001))))), (((((0, 72, zun 40 72 4294967299), (0, 12, zun 40 12 4294967296)), (zk_99_zs1_62_X7_makeShapes_22, (3, 16, 0xc400000000c300000000c200000000c100000000c000000000bf00000000be00000000bd00000000bc00000000bb00000000ba00000000b900000000b800000000b700000000b600000000b5))), (((0, 12, 0), (0, 12, 0)), ((0, 12, 0), (0, 12, 0)))), ((((0, 12, 0), (0, 12, 0)), ((0, 12, 0), (0, 12, 0))), (((0, 12, 0), (0, 12, 0)), ((0, 12, 0), (0, 12, 0))))))), (((((((0, 12, 0), (0, 12, 0)), ((0, 12, 0), (0, 12, 0))), (((3, 16, 0xd500000000d400000000d300000000d200000000d100000000d000000000cf00000000ce00000000cd00000000cc00000000cb00000000ca00000000c900000000c800000000c700000000c6), (0, 16, 0)), ((0, 16, 0), (0, 16, 0)))), ((((0, 16, 0), (0, 16, 0)), ((0, 16, 0), (0, 16, 0))), (((0, 16, 0), (0, 16, 0)), ((0, 16, 0), (0, 16, 0))))), (((((0, 16, 0), (0, 16, 0)), ((0, 16, 0), (0, 16, 0))), (((0, 16, 0), (20, 16, 0xdb00000000da010000001900000000e900000000ea00000000e800000000e7000000001800000000f500000000dc000000000a00000000d900000000d800000000d700000000040000000006)), ((0, 4, 0x1000000000100000000010000000003), (0, 3, 0x100000000010000000004)))), ((((0, 4, 0x5000000000400000000030000000000), zk_99_zs1_62_X7_makeShapes_6), (zk_99_zs1_62_X7_makeShapes_7, (3, 10, 0xe600000000e500000000e400000000e300000000e200000000e100000000e000000000df00000000de00000000dd))), ((zk_99_zs1_62_X7_makeShapes_8, zk_99_zs1_62_X7_makeShapes_23), (zk_99_zs1_62_X7_makeShapes_24, zk_99_zs1_62_X7_makeShapes_28))))), ((((zk_99_zs1_62_X7_makeShapes_27, (zk_99_zs1_62_X7_makeShapes_29, (0, 6, 0x600000000030000000002000000000500000000040000000001))), (((0, 6, 0x500000000030000000002000000000600000000040000000001), (0, 6, 0x400000000030000000002000000000600000000050000000001)), ((0, 144, zun 40 144 4294967300), (0, 24, zun 40 24 4294967296)))), (((zk_99_zs1_62_X7_makeShapes_30, (3, 10, 0xf400000000f300000000f200000000f100000000f000000000ef00000000ee00000000ed00000000ec00000000eb)), ((0, 24, 0), (0, 24, 0))), (((0, 24, 0), (0, 24, 0)), ((0, 24, 0), (0, 24, 0))))), (((((0, 24, 0), (0, 24, 0)), ((0, 24, 0), (0, 24, 0))), (((3, 10, 0xff00000000fe00000000fd00000000fc00000000fb00000000fa00000000f900000000f800000000f700000000f6), (0, 10, 0)), ((0, 10, 0), (0, 10, 0)))), ((((0, 10, 0), (0, 10, 0)), ((0, 10, 0), (0, 10, 0))), (((0, 10, 0), (0, 10, 0)), ((0, 10, 0), (20, 16, 0x10500000001040100000025000000010e000000010f000000010d000000010c000000002400000001150000000106000000000500000001030000000102000000010100000000030000000006))))))))), (((((((((0, 3, 0x200000000020000000002), (0, 2, 0x30000000003)), ((0, 3, 0x400000000020000000000), zk_99_zs1_62_X7_makeShapes_6)), ((zk_99_zs1_62_X7_makeShapes_7, (3, 5, 0x10b000000010a000000010900000001080000000107)), zk_99_zs1_62_X7_makeShapes_13)), ((zk_99_zs1_62_X7_makeShapes_32, (zk_99_zs1_62_X7_makeShapes_33, (0, 216, zun 40 216 4294967299))), (((0, 36, zun 40 36 4294967296), zk_99_zs1_62_X7_makeShapes_22), ((3, 5, 0x1140000000113000000011200000001110000000110), (0, 36, 0))))), (((((0, 36, 0), (0, 36, 0)), ((0, 36, 0), (0, 36, 0))), (((3, 5, 0x11a0000000119000000011800000001170000000116), (0, 5, 0)), ((0, 5, 0), (0, 5, 0)))), ((((0, 5, 0), (0, 5, 0)), ((20, 16, 0x120000000011f0100000031000000012d000000012e000000012c000000012b0000000030000000013800000001210000000009000000011e000000011d000000011c00000000040000000006), (0, 4, 0x1000000000100000000020000000002))), (((0, 2, 0x20000000004), (0, 4, 0x5000000000400000000020000000000)), zk_99_zs1_62_X7_makeShapes_9)))), ((((((3, 9, 0x12a00000001290000000128000000012700000001260000000125000000012400000001230000000122), zk_99_zs1_62_X7_makeShapes_8), zk_99_zs1_62_X7_makeShapes_21), (zk_99_zs1_62_X7_makeShapes_32, ((0, 6, 0x500000000040000000006000000000200000000030000000001), zk_99_zs1_62_X7_makeShapes_33))), ((((0, 6, 0x500000000030000000006000000000200000000040000000001), (0, 6, 0x400000000030000000006000000000200000000050000000001)), ((0, 288, zun 40 288 4294967300), (0, 48, zun 40 48 4294967296))), ((zk_99_zs1_62_X7_makeShapes_30, (3, 9, 0x1370000000136000000013500000001340000000133000000013200000001310000000130000000012f)), ((0, 48, 0), (0, 48, 0))))), (((((0, 48, 0), (0, 48, 0)), ((0, 48, 0), (0, 48, 0))), (((0, 48, 0), (0, 48, 0)), ((0, 48, 0), (3, 9, 0x1410000000140000000013f000000013e000000013d000000013c000000013b000000013a0000000139)))), ((((0, 9, 0), (0, 9, 0)), ((0, 9, 0), (0, 9, 0))), (((0, 9, 0), (0, 9, 0)), ((0, 9, 0), (0, 9, 0))))))), (((((((0, 9, 0), (20, 16, 0x1470000000146010000007900000001500000000151000000014f000000014e000000007800000001570000000148000000000500000001450000000144000000014300000000050000000006)), ((0, 5, 0x10000000001000000000100000000010000000002), (0, 2, 0x10000000005))), (((0, 5, 0x50000000004000000000300000000020000000000), zk_99_zs1_62_X7_makeShapes_6), (zk_99_zs1_62_X7_makeShapes_7, (3, 5, 0x14d000000014c000000014b000000014a0000000149)))), (((zk_99_zs1_62_X7_makeShapes_8, zk_99_zs1_62_X7_makeShapes_31), ((0, 6, 0x600000000050000000003000000000200000000040000000001), (0, 6, 0x600000000040000000003000000000200000000050000000001))), (((0, 6, 0x500000000040000000003000000000200000000060000000001), (0, 720, zun 40 720 4294967301)), ((0, 120, zun 40 120 4294967296), (0, 7, 0x271000000007d0000000019000000000500000000010000000000))))), (((((3, 5, 0x1560000000155000000015400000001530000000152), (0, 120, 0)), ((0, 120, 0), (0, 120, 0))), (((0, 120, 0), (0, 120, 0)), ((3, 5, 0x15c000000015b000000015a00000001590000000158), (0, 5, 0)))), ((((0, 5, 0), (0, 5, 0)), ((0, 5, 0), (0, 5, 0))), (((20, 16, 0x162000000016101000002d1000000016700000001680000000166000000016500000002d0000000016a000000016300000000010000000160000000015f000000015e00000000060000000006), zk_99_zs1_62_X7_makeShapes_5), ((0, 1, 6), (0, 6, 0x500000000040000000003000000000200000000010000000000)))))), ((((zk_99_zs1_62_X7_makeShapes_9, ((3, 1, 0x164), zk_99_zs1_62_X7_makeShapes_8)), (((0, 4320, zun 40 4320 4294967302), (0, 720, zun 40 720 4294967296)), ((0, 7, 0x51000000000d80000000024000000000600000000010000000000), (3, 1, 0x169)))), ((((0, 720, 0), (3, 1, 0x16b)), ((0, 1, 0), (0, 0, 0))), zO2)), zO4))), zO7)), (363, (0, 0)))
theorem ev_X7_makeShapes_5 : f_X7_makeShapesa [zR 1] h0_X7_makeShapes_5 (zrk (zU) h1_X7_makeShapes_5) = true := by decide +kernel
noncomputable def g_X7_makeShapes_5 {d : Nat} : List zV → zH d → zP d → Bool := zsmy [(0, 0), (1, 3)] [zR 1] h0_X7_makeShapes_5 (zU) h1_X7_makeShapes_5
theorem mg_X7_makeShapes_5 {d : Nat} : zMet (d := d) X_X7_makeShapes yX7_makeShapes 11 g_X7_makeShapes_5 := zMet_sm m_X7_makeShapesa ev_X7_makeShapes_5
noncomputable def g_X7_makeShapes {d : Nat} : List zV → zH d → zP d → Bool := (zor2 g_X7_makeShapes_0 (zor2 g_X7_makeShapes_1 (zor2 g_X7_makeShapes_2 (zor2 g_X7_makeShapes_3 (zor2 g_X7_makeShapes_4 (zor2 g_X7_makeShapes_5 (fun _ _ _ => false)))))))
theorem mg_X7_makeShapes {d : Nat} : zMet (d := d) X_X7_makeShapes yX7_makeShapes 11 g_X7_makeShapes := (zMet_or mg_X7_makeShapes_0 (zMet_or mg_X7_makeShapes_1 (zMet_or mg_X7_makeShapes_2 (zMet_or mg_X7_makeShapes_3 (zMet_or mg_X7_makeShapes_4 (zMet_or mg_X7_makeShapes_5 zfalse))))))
end
section
/-! the class by summaries, by program -/
noncomputable def h0_X8_greatestDivisor_0 : zH 0 := (show zT 0 from (0, 0, 0), (0, (0, 0)))
noncomputable def h1_X8_greatestDivisor_0 : zH 0 := (show zT 0 from (0, 0, 0), (0, (0, 0)))
theorem ev_X8_greatestDivisor_0 : f_X8_greatestDivisor [zL 1, zL 1] h0_X8_greatestDivisor_0 (zrk (zL 1) h1_X8_greatestDivisor_0) = true := by decide +kernel
noncomputable def g_X8_greatestDivisor_0 {d : Nat} : List zV → zH d → zP d → Bool := zsmy [] [zL 1, zL 1] h0_X8_greatestDivisor_0 (zL 1) h1_X8_greatestDivisor_0
theorem mg_X8_greatestDivisor_0 {d : Nat} : zMet (d := d) X_X8_greatestDivisor yX8_greatestDivisor 1 g_X8_greatestDivisor_0 := zMet_sm m_X8_greatestDivisor ev_X8_greatestDivisor_0
noncomputable def h0_X8_greatestDivisor_1 : zH 0 := (show zT 0 from (0, 0, 0), (0, (0, 0)))
noncomputable def h1_X8_greatestDivisor_1 : zH 0 := (show zT 0 from (0, 0, 0), (0, (0, 0)))
theorem ev_X8_greatestDivisor_1 : f_X8_greatestDivisor [zL 1, zL 2] h0_X8_greatestDivisor_1 (zrk (zL 1) h1_X8_greatestDivisor_1) = true := by decide +kernel
noncomputable def g_X8_greatestDivisor_1 {d : Nat} : List zV → zH d → zP d → Bool := zsmy [] [zL 1, zL 2] h0_X8_greatestDivisor_1 (zL 1) h1_X8_greatestDivisor_1
theorem mg_X8_greatestDivisor_1 {d : Nat} : zMet (d := d) X_X8_greatestDivisor yX8_greatestDivisor 1 g_X8_greatestDivisor_1 := zMet_sm m_X8_greatestDivisor ev_X8_greatestDivisor_1
noncomputable def h0_X8_greatestDivisor_2 : zH 0 := (show zT 0 from (0, 0, 0), (0, (0, 0)))
noncomputable def h1_X8_greatestDivisor_2 : zH 0 := (show zT 0 from (0, 0, 0), (0, (0, 0)))
theorem ev_X8_greatestDivisor_2 : f_X8_greatestDivisor [zL 1, zL 3] h0_X8_greatestDivisor_2 (zrk (zL 1) h1_X8_greatestDivisor_2) = true := by decide +kernel
noncomputable def g_X8_greatestDivisor_2 {d : Nat} : List zV → zH d → zP d → Bool := zsmy [] [zL 1, zL 3] h0_X8_greatestDivisor_2 (zL 1) h1_X8_greatestDivisor_2
theorem mg_X8_greatestDivisor_2 {d : Nat} : zMet (d := d) X_X8_greatestDivisor yX8_greatestDivisor 1 g_X8_greatestDivisor_2 := zMet_sm m_X8_greatestDivisor ev_X8_greatestDivisor_2
noncomputable def h0_X8_greatestDivisor_3 : zH 0 := (show zT 0 from (0, 0, 0), (0, (0, 0)))
noncomputable def h1_X8_greatestDivisor_3 : zH 0 := (show zT 0 from (0, 0, 0), (0, (0, 0)))
theorem ev_X8_greatestDivisor_3 : f_X8_greatestDivisor [zL 1, zL 4] h0_X8_greatestDivisor_3 (zrk (zL 1) h1_X8_greatestDivisor_3) = true := by decide +kernel
noncomputable def g_X8_greatestDivisor_3 {d : Nat} : List zV → zH d → zP d → Bool := zsmy [] [zL 1, zL 4] h0_X8_greatestDivisor_3 (zL 1) h1_X8_greatestDivisor_3
theorem mg_X8_greatestDivisor_3 {d : Nat} : zMet (d := d) X_X8_greatestDivisor yX8_greatestDivisor 1 g_X8_greatestDivisor_3 := zMet_sm m_X8_greatestDivisor ev_X8_greatestDivisor_3
noncomputable def h0_X8_greatestDivisor_4 : zH 0 := (show zT 0 from (0, 0, 0), (0, (0, 0)))
noncomputable def h1_X8_greatestDivisor_4 : zH 0 := (show zT 0 from (0, 0, 0), (0, (0, 0)))
theorem ev_X8_greatestDivisor_4 : f_X8_greatestDivisor [zL 1, zL 5] h0_X8_greatestDivisor_4 (zrk (zL 1) h1_X8_greatestDivisor_4) = true := by decide +kernel
noncomputable def g_X8_greatestDivisor_4 {d : Nat} : List zV → zH d → zP d → Bool := zsmy [] [zL 1, zL 5] h0_X8_greatestDivisor_4 (zL 1) h1_X8_greatestDivisor_4
theorem mg_X8_greatestDivisor_4 {d : Nat} : zMet (d := d) X_X8_greatestDivisor yX8_greatestDivisor 1 g_X8_greatestDivisor_4 := zMet_sm m_X8_greatestDivisor ev_X8_greatestDivisor_4
noncomputable def h0_X8_greatestDivisor_5 : zH 0 := (show zT 0 from (0, 0, 0), (0, (0, 0)))
noncomputable def h1_X8_greatestDivisor_5 : zH 0 := (show zT 0 from (0, 0, 0), (0, (0, 0)))
theorem ev_X8_greatestDivisor_5 : f_X8_greatestDivisor [zL 1, zL 6] h0_X8_greatestDivisor_5 (zrk (zL 1) h1_X8_greatestDivisor_5) = true := by decide +kernel
noncomputable def g_X8_greatestDivisor_5 {d : Nat} : List zV → zH d → zP d → Bool := zsmy [] [zL 1, zL 6] h0_X8_greatestDivisor_5 (zL 1) h1_X8_greatestDivisor_5
theorem mg_X8_greatestDivisor_5 {d : Nat} : zMet (d := d) X_X8_greatestDivisor yX8_greatestDivisor 1 g_X8_greatestDivisor_5 := zMet_sm m_X8_greatestDivisor ev_X8_greatestDivisor_5
noncomputable def h0_X8_greatestDivisor_6 : zH 0 := (show zT 0 from (0, 0, 0), (0, (0, 0)))
noncomputable def h1_X8_greatestDivisor_6 : zH 0 := (show zT 0 from (0, 0, 0), (0, (0, 0)))
theorem ev_X8_greatestDivisor_6 : f_X8_greatestDivisor [zL 2, zL 1] h0_X8_greatestDivisor_6 (zrk (zL 1) h1_X8_greatestDivisor_6) = true := by decide +kernel
noncomputable def g_X8_greatestDivisor_6 {d : Nat} : List zV → zH d → zP d → Bool := zsmy [] [zL 2, zL 1] h0_X8_greatestDivisor_6 (zL 1) h1_X8_greatestDivisor_6
theorem mg_X8_greatestDivisor_6 {d : Nat} : zMet (d := d) X_X8_greatestDivisor yX8_greatestDivisor 1 g_X8_greatestDivisor_6 := zMet_sm m_X8_greatestDivisor ev_X8_greatestDivisor_6
noncomputable def h0_X8_greatestDivisor_7 : zH 0 := (show zT 0 from (0, 0, 0), (0, (0, 0)))
noncomputable def h1_X8_greatestDivisor_7 : zH 0 := (show zT 0 from (0, 0, 0), (0, (0, 0)))
theorem ev_X8_greatestDivisor_7 : f_X8_greatestDivisor [zL 2, zL 2] h0_X8_greatestDivisor_7 (zrk (zL 2) h1_X8_greatestDivisor_7) = true := by decide +kernel
noncomputable def g_X8_greatestDivisor_7 {d : Nat} : List zV → zH d → zP d → Bool := zsmy [] [zL 2, zL 2] h0_X8_greatestDivisor_7 (zL 2) h1_X8_greatestDivisor_7
theorem mg_X8_greatestDivisor_7 {d : Nat} : zMet (d := d) X_X8_greatestDivisor yX8_greatestDivisor 1 g_X8_greatestDivisor_7 := zMet_sm m_X8_greatestDivisor ev_X8_greatestDivisor_7
noncomputable def h0_X8_greatestDivisor_8 : zH 0 := (show zT 0 from (0, 0, 0), (0, (0, 0)))
noncomputable def h1_X8_greatestDivisor_8 : zH 0 := (show zT 0 from (0, 0, 0), (0, (0, 0)))
theorem ev_X8_greatestDivisor_8 : f_X8_greatestDivisor [zL 2, zL 3] h0_X8_greatestDivisor_8 (zrk (zL 1) h1_X8_greatestDivisor_8) = true := by decide +kernel
noncomputable def g_X8_greatestDivisor_8 {d : Nat} : List zV → zH d → zP d → Bool := zsmy [] [zL 2, zL 3] h0_X8_greatestDivisor_8 (zL 1) h1_X8_greatestDivisor_8
theorem mg_X8_greatestDivisor_8 {d : Nat} : zMet (d := d) X_X8_greatestDivisor yX8_greatestDivisor 1 g_X8_greatestDivisor_8 := zMet_sm m_X8_greatestDivisor ev_X8_greatestDivisor_8
noncomputable def h0_X8_greatestDivisor_9 : zH 0 := (show zT 0 from (0, 0, 0), (0, (0, 0)))
noncomputable def h1_X8_greatestDivisor_9 : zH 0 := (show zT 0 from (0, 0, 0), (0, (0, 0)))
theorem ev_X8_greatestDivisor_9 : f_X8_greatestDivisor [zL 2, zL 4] h0_X8_greatestDivisor_9 (zrk (zL 2) h1_X8_greatestDivisor_9) = true := by decide +kernel
noncomputable def g_X8_greatestDivisor_9 {d : Nat} : List zV → zH d → zP d → Bool := zsmy [] [zL 2, zL 4] h0_X8_greatestDivisor_9 (zL 2) h1_X8_greatestDivisor_9
theorem mg_X8_greatestDivisor_9 {d : Nat} : zMet (d := d) X_X8_greatestDivisor yX8_greatestDivisor 1 g_X8_greatestDivisor_9 := zMet_sm m_X8_greatestDivisor ev_X8_greatestDivisor_9
noncomputable def h0_X8_greatestDivisor_10 : zH 0 := (show zT 0 from (0, 0, 0), (0, (0, 0)))
noncomputable def h1_X8_greatestDivisor_10 : zH 0 := (show zT 0 from (0, 0, 0), (0, (0, 0)))
theorem ev_X8_greatestDivisor_10 : f_X8_greatestDivisor [zL 2, zL 5] h0_X8_greatestDivisor_10 (zrk (zL 1) h1_X8_greatestDivisor_10) = true := by decide +kernel
noncomputable def g_X8_greatestDivisor_10 {d : Nat} : List zV → zH d → zP d → Bool := zsmy [] [zL 2, zL 5] h0_X8_greatestDivisor_10 (zL 1) h1_X8_greatestDivisor_10
theorem mg_X8_greatestDivisor_10 {d : Nat} : zMet (d := d) X_X8_greatestDivisor yX8_greatestDivisor 1 g_X8_greatestDivisor_10 := zMet_sm m_X8_greatestDivisor ev_X8_greatestDivisor_10
noncomputable def h0_X8_greatestDivisor_11 : zH 0 := (show zT 0 from (0, 0, 0), (0, (0, 0)))
noncomputable def h1_X8_greatestDivisor_11 : zH 0 := (show zT 0 from (0, 0, 0), (0, (0, 0)))
theorem ev_X8_greatestDivisor_11 : f_X8_greatestDivisor [zL 2, zL 6] h0_X8_greatestDivisor_11 (zrk (zL 2) h1_X8_greatestDivisor_11) = true := by decide +kernel
noncomputable def g_X8_greatestDivisor_11 {d : Nat} : List zV → zH d → zP d → Bool := zsmy [] [zL 2, zL 6] h0_X8_greatestDivisor_11 (zL 2) h1_X8_greatestDivisor_11
theorem mg_X8_greatestDivisor_11 {d : Nat} : zMet (d := d) X_X8_greatestDivisor yX8_greatestDivisor 1 g_X8_greatestDivisor_11 := zMet_sm m_X8_greatestDivisor ev_X8_greatestDivisor_11
noncomputable def h0_X8_greatestDivisor_12 : zH 0 := (show zT 0 from (0, 0, 0), (0, (0, 0)))
noncomputable def h1_X8_greatestDivisor_12 : zH 0 := (show zT 0 from (0, 0, 0), (0, (0, 0)))
theorem ev_X8_greatestDivisor_12 : f_X8_greatestDivisor [zL 3, zL 1] h0_X8_greatestDivisor_12 (zrk (zL 1) h1_X8_greatestDivisor_12) = true := by decide +kernel
noncomputable def g_X8_greatestDivisor_12 {d : Nat} : List zV → zH d → zP d → Bool := zsmy [] [zL 3, zL 1] h0_X8_greatestDivisor_12 (zL 1) h1_X8_greatestDivisor_12
theorem mg_X8_greatestDivisor_12 {d : Nat} : zMet (d := d) X_X8_greatestDivisor yX8_greatestDivisor 1 g_X8_greatestDivisor_12 := zMet_sm m_X8_greatestDivisor ev_X8_greatestDivisor_12
noncomputable def h0_X8_greatestDivisor_13 : zH 0 := (show zT 0 from (0, 0, 0), (0, (0, 0)))
noncomputable def h1_X8_greatestDivisor_13 : zH 0 := (show zT 0 from (0, 0, 0), (0, (0, 0)))
theorem ev_X8_greatestDivisor_13 : f_X8_greatestDivisor [zL 3, zL 2] h0_X8_greatestDivisor_13 (zrk (zL 1) h1_X8_greatestDivisor_13) = true := by decide +kernel
noncomputable def g_X8_greatestDivisor_13 {d : Nat} : List zV → zH d → zP d → Bool := zsmy [] [zL 3, zL 2] h0_X8_greatestDivisor_13 (zL 1) h1_X8_greatestDivisor_13
theorem mg_X8_greatestDivisor_13 {d : Nat} : zMet (d := d) X_X8_greatestDivisor yX8_greatestDivisor 1 g_X8_greatestDivisor_13 := zMet_sm m_X8_greatestDivisor ev_X8_greatestDivisor_13
noncomputable def h0_X8_greatestDivisor_14 : zH 0 := (show zT 0 from (0, 0, 0), (0, (0, 0)))
noncomputable def h1_X8_greatestDivisor_14 : zH 0 := (show zT 0 from (0, 0, 0), (0, (0, 0)))
theorem ev_X8_greatestDivisor_14 : f_X8_greatestDivisor [zL 3, zL 3] h0_X8_greatestDivisor_14 (zrk (zL 3) h1_X8_greatestDivisor_14) = true := by decide +kernel
noncomputable def g_X8_greatestDivisor_14 {d : Nat} : List zV → zH d → zP d → Bool := zsmy [] [zL 3, zL 3] h0_X8_greatestDivisor_14 (zL 3) h1_X8_greatestDivisor_14
theorem mg_X8_greatestDivisor_14 {d : Nat} : zMet (d := d) X_X8_greatestDivisor yX8_greatestDivisor 1 g_X8_greatestDivisor_14 := zMet_sm m_X8_greatestDivisor ev_X8_greatestDivisor_14
noncomputable def h0_X8_greatestDivisor_15 : zH 0 := (show zT 0 from (0, 0, 0), (0, (0, 0)))
noncomputable def h1_X8_greatestDivisor_15 : zH 0 := (show zT 0 from (0, 0, 0), (0, (0, 0)))
theorem ev_X8_greatestDivisor_15 : f_X8_greatestDivisor [zL 3, zL 4] h0_X8_greatestDivisor_15 (zrk (zL 1) h1_X8_greatestDivisor_15) = true := by decide +kernel
noncomputable def g_X8_greatestDivisor_15 {d : Nat} : List zV → zH d → zP d → Bool := zsmy [] [zL 3, zL 4] h0_X8_greatestDivisor_15 (zL 1) h1_X8_greatestDivisor_15
theorem mg_X8_greatestDivisor_15 {d : Nat} : zMet (d := d) X_X8_greatestDivisor yX8_greatestDivisor 1 g_X8_greatestDivisor_15 := zMet_sm m_X8_greatestDivisor ev_X8_greatestDivisor_15
noncomputable def h0_X8_greatestDivisor_16 : zH 0 := (show zT 0 from (0, 0, 0), (0, (0, 0)))
noncomputable def h1_X8_greatestDivisor_16 : zH 0 := (show zT 0 from (0, 0, 0), (0, (0, 0)))
theorem ev_X8_greatestDivisor_16 : f_X8_greatestDivisor [zL 3, zL 5] h0_X8_greatestDivisor_16 (zrk (zL 1) h1_X8_greatestDivisor_16) = true := by decide +kernel
noncomputable def g_X8_greatestDivisor_16 {d : Nat} : List zV → zH d → zP d → Bool := zsmy [] [zL 3, zL 5] h0_X8_greatestDivisor_16 (zL 1) h1_X8_greatestDivisor_16
theorem mg_X8_greatestDivisor_16 {d : Nat} : zMet (d := d) X_X8_greatestDivisor yX8_greatestDivisor 1 g_X8_greatestDivisor_16 := zMet_sm m_X8_greatestDivisor ev_X8_greatestDivisor_16
noncomputable def h0_X8_greatestDivisor_17 : zH 0 := (show zT 0 from (0, 0, 0), (0, (0, 0)))
noncomputable def h1_X8_greatestDivisor_17 : zH 0 := (show zT 0 from (0, 0, 0), (0, (0, 0)))
theorem ev_X8_greatestDivisor_17 : f_X8_greatestDivisor [zL 3, zL 6] h0_X8_greatestDivisor_17 (zrk (zL 3) h1_X8_greatestDivisor_17) = true := by decide +kernel
noncomputable def g_X8_greatestDivisor_17 {d : Nat} : List zV → zH d → zP d → Bool := zsmy [] [zL 3, zL 6] h0_X8_greatestDivisor_17 (zL 3) h1_X8_greatestDivisor_17
theorem mg_X8_greatestDivisor_17 {d : Nat} : zMet (d := d) X_X8_greatestDivisor yX8_greatestDivisor 1 g_X8_greatestDivisor_17 := zMet_sm m_X8_greatestDivisor ev_X8_greatestDivisor_17
noncomputable def h0_X8_greatestDivisor_18 : zH 0 := (show zT 0 from (0, 0, 0), (0, (0, 0)))
noncomputable def h1_X8_greatestDivisor_18 : zH 0 := (show zT 0 from (0, 0, 0), (0, (0, 0)))
theorem ev_X8_greatestDivisor_18 : f_X8_greatestDivisor [zL 4, zL 1] h0_X8_greatestDivisor_18 (zrk (zL 1) h1_X8_greatestDivisor_18) = true := by decide +kernel
noncomputable def g_X8_greatestDivisor_18 {d : Nat} : List zV → zH d → zP d → Bool := zsmy [] [zL 4, zL 1] h0_X8_greatestDivisor_18 (zL 1) h1_X8_greatestDivisor_18
theorem mg_X8_greatestDivisor_18 {d : Nat} : zMet (d := d) X_X8_greatestDivisor yX8_greatestDivisor 1 g_X8_greatestDivisor_18 := zMet_sm m_X8_greatestDivisor ev_X8_greatestDivisor_18
noncomputable def h0_X8_greatestDivisor_19 : zH 0 := (show zT 0 from (0, 0, 0), (0, (0, 0)))
noncomputable def h1_X8_greatestDivisor_19 : zH 0 := (show zT 0 from (0, 0, 0), (0, (0, 0)))
theorem ev_X8_greatestDivisor_19 : f_X8_greatestDivisor [zL 4, zL 2] h0_X8_greatestDivisor_19 (zrk (zL 2) h1_X8_greatestDivisor_19) = true := by decide +kernel
noncomputable def g_X8_greatestDivisor_19 {d : Nat} : List zV → zH d → zP d → Bool := zsmy [] [zL 4, zL 2] h0_X8_greatestDivisor_19 (zL 2) h1_X8_greatestDivisor_19
theorem mg_X8_greatestDivisor_19 {d : Nat} : zMet (d := d) X_X8_greatestDivisor yX8_greatestDivisor 1 g_X8_greatestDivisor_19 := zMet_sm m_X8_greatestDivisor ev_X8_greatestDivisor_19
noncomputable def h0_X8_greatestDivisor_20 : zH 0 := (show zT 0 from (0, 0, 0), (0, (0, 0)))
noncomputable def h1_X8_greatestDivisor_20 : zH 0 := (show zT 0 from (0, 0, 0), (0, (0, 0)))
theorem ev_X8_greatestDivisor_20 : f_X8_greatestDivisor [zL 4, zL 3] h0_X8_greatestDivisor_20 (zrk (zL 1) h1_X8_greatestDivisor_20) = true := by decide +kernel
noncomputable def g_X8_greatestDivisor_20 {d : Nat} : List zV → zH d → zP d → Bool := zsmy [] [zL 4, zL 3] h0_X8_greatestDivisor_20 (zL 1) h1_X8_greatestDivisor_20
theorem mg_X8_greatestDivisor_20 {d : Nat} : zMet (d := d) X_X8_greatestDivisor yX8_greatestDivisor 1 g_X8_greatestDivisor_20 := zMet_sm m_X8_greatestDivisor ev_X8_greatestDivisor_20
noncomputable def h0_X8_greatestDivisor_21 : zH 0 := (show zT 0 from (0, 0, 0), (0, (0, 0)))
noncomputable def h1_X8_greatestDivisor_21 : zH 0 := (show zT 0 from (0, 0, 0), (0, (0, 0)))
theorem ev_X8_greatestDivisor_21 : f_X8_greatestDivisor [zL 4, zL 4] h0_X8_greatestDivisor_21 (zrk (zL 4) h1_X8_greatestDivisor_21) = true := by decide +kernel
noncomputable def g_X8_greatestDivisor_21 {d : Nat} : List zV → zH d → zP d → Bool := zsmy [] [zL 4, zL 4] h0_X8_greatestDivisor_21 (zL 4) h1_X8_greatestDivisor_21
theorem mg_X8_greatestDivisor_21 {d : Nat} : zMet (d := d) X_X8_greatestDivisor yX8_greatestDivisor 1 g_X8_greatestDivisor_21 := zMet_sm m_X8_greatestDivisor ev_X8_greatestDivisor_21
noncomputable def h0_X8_greatestDivisor_22 : zH 0 := (show zT 0 from (0, 0, 0), (0, (0, 0)))
noncomputable def h1_X8_greatestDivisor_22 : zH 0 := (show zT 0 from (0, 0, 0), (0, (0, 0)))
theorem ev_X8_greatestDivisor_22 : f_X8_greatestDivisor [zL 4, zL 5] h0_X8_greatestDivisor_22 (zrk (zL 1) h1_X8_greatestDivisor_22) = true := by decide +kernel
noncomputable def g_X8_greatestDivisor_22 {d : Nat} : List zV → zH d → zP d → Bool := zsmy [] [zL 4, zL 5] h0_X8_greatestDivisor_22 (zL 1) h1_X8_greatestDivisor_22
theorem mg_X8_greatestDivisor_22 {d : Nat} : zMet (d := d) X_X8_greatestDivisor yX8_greatestDivisor 1 g_X8_greatestDivisor_22 := zMet_sm m_X8_greatestDivisor ev_X8_greatestDivisor_22
noncomputable def h0_X8_greatestDivisor_23 : zH 0 := (show zT 0 from (0, 0, 0), (0, (0, 0)))
noncomputable def h1_X8_greatestDivisor_23 : zH 0 := (show zT 0 from (0, 0, 0), (0, (0, 0)))
theorem ev_X8_greatestDivisor_23 : f_X8_greatestDivisor [zL 4, zL 6] h0_X8_greatestDivisor_23 (zrk (zL 2) h1_X8_greatestDivisor_23) = true := by decide +kernel
noncomputable def g_X8_greatestDivisor_23 {d : Nat} : List zV → zH d → zP d → Bool := zsmy [] [zL 4, zL 6] h0_X8_greatestDivisor_23 (zL 2) h1_X8_greatestDivisor_23
theorem mg_X8_greatestDivisor_23 {d : Nat} : zMet (d := d) X_X8_greatestDivisor yX8_greatestDivisor 1 g_X8_greatestDivisor_23 := zMet_sm m_X8_greatestDivisor ev_X8_greatestDivisor_23
noncomputable def h0_X8_greatestDivisor_24 : zH 0 := (show zT 0 from (0, 0, 0), (0, (0, 0)))
noncomputable def h1_X8_greatestDivisor_24 : zH 0 := (show zT 0 from (0, 0, 0), (0, (0, 0)))
theorem ev_X8_greatestDivisor_24 : f_X8_greatestDivisor [zL 5, zL 1] h0_X8_greatestDivisor_24 (zrk (zL 1) h1_X8_greatestDivisor_24) = true := by decide +kernel
noncomputable def g_X8_greatestDivisor_24 {d : Nat} : List zV → zH d → zP d → Bool := zsmy [] [zL 5, zL 1] h0_X8_greatestDivisor_24 (zL 1) h1_X8_greatestDivisor_24
theorem mg_X8_greatestDivisor_24 {d : Nat} : zMet (d := d) X_X8_greatestDivisor yX8_greatestDivisor 1 g_X8_greatestDivisor_24 := zMet_sm m_X8_greatestDivisor ev_X8_greatestDivisor_24
noncomputable def h0_X8_greatestDivisor_25 : zH 0 := (show zT 0 from (0, 0, 0), (0, (0, 0)))
noncomputable def h1_X8_greatestDivisor_25 : zH 0 := (show zT 0 from (0, 0, 0), (0, (0, 0)))
theorem ev_X8_greatestDivisor_25 : f_X8_greatestDivisor [zL 5, zL 2] h0_X8_greatestDivisor_25 (zrk (zL 1) h1_X8_greatestDivisor_25) = true := by decide +kernel
noncomputable def g_X8_greatestDivisor_25 {d : Nat} : List zV → zH d → zP d → Bool := zsmy [] [zL 5, zL 2] h0_X8_greatestDivisor_25 (zL 1) h1_X8_greatestDivisor_25
theorem mg_X8_greatestDivisor_25 {d : Nat} : zMet (d := d) X_X8_greatestDivisor yX8_greatestDivisor 1 g_X8_greatestDivisor_25 := zMet_sm m_X8_greatestDivisor ev_X8_greatestDivisor_25
noncomputable def h0_X8_greatestDivisor_26 : zH 0 := (show zT 0 from (0, 0, 0), (0, (0, 0)))
noncomputable def h1_X8_greatestDivisor_26 : zH 0 := (show zT 0 from (0, 0, 0), (0, (0, 0)))
theorem ev_X8_greatestDivisor_26 : f_X8_greatestDivisor [zL 5, zL 3] h0_X8_greatestDivisor_26 (zrk (zL 1) h1_X8_greatestDivisor_26) = true := by decide +kernel
noncomputable def g_X8_greatestDivisor_26 {d : Nat} : List zV → zH d → zP d → Bool := zsmy [] [zL 5, zL 3] h0_X8_greatestDivisor_26 (zL 1) h1_X8_greatestDivisor_26
theorem mg_X8_greatestDivisor_26 {d : Nat} : zMet (d := d) X_X8_greatestDivisor yX8_greatestDivisor 1 g_X8_greatestDivisor_26 := zMet_sm m_X8_greatestDivisor ev_X8_greatestDivisor_26
noncomputable def h0_X8_greatestDivisor_27 : zH 0 := (show zT 0 from (0, 0, 0), (0, (0, 0)))
noncomputable def h1_X8_greatestDivisor_27 : zH 0 := (show zT 0 from (0, 0, 0), (0, (0, 0)))
theorem ev_X8_greatestDivisor_27 : f_X8_greatestDivisor [zL 5, zL 4] h0_X8_greatestDivisor_27 (zrk (zL 1) h1_X8_greatestDivisor_27) = true := by decide +kernel
noncomputable def g_X8_greatestDivisor_27 {d : Nat} : List zV → zH d → zP d → Bool := zsmy [] [zL 5, zL 4] h0_X8_greatestDivisor_27 (zL 1) h1_X8_greatestDivisor_27
theorem mg_X8_greatestDivisor_27 {d : Nat} : zMet (d := d) X_X8_greatestDivisor yX8_greatestDivisor 1 g_X8_greatestDivisor_27 := zMet_sm m_X8_greatestDivisor ev_X8_greatestDivisor_27
noncomputable def h0_X8_greatestDivisor_28 : zH 0 := (show zT 0 from (0, 0, 0), (0, (0, 0)))
noncomputable def h1_X8_greatestDivisor_28 : zH 0 := (show zT 0 from (0, 0, 0), (0, (0, 0)))
theorem ev_X8_greatestDivisor_28 : f_X8_greatestDivisor [zL 5, zL 5] h0_X8_greatestDivisor_28 (zrk (zL 5) h1_X8_greatestDivisor_28) = true := by decide +kernel
noncomputable def g_X8_greatestDivisor_28 {d : Nat} : List zV → zH d → zP d → Bool := zsmy [] [zL 5, zL 5] h0_X8_greatestDivisor_28 (zL 5) h1_X8_greatestDivisor_28
theorem mg_X8_greatestDivisor_28 {d : Nat} : zMet (d := d) X_X8_greatestDivisor yX8_greatestDivisor 1 g_X8_greatestDivisor_28 := zMet_sm m_X8_greatestDivisor ev_X8_greatestDivisor_28
noncomputable def h0_X8_greatestDivisor_29 : zH 0 := (show zT 0 from (0, 0, 0), (0, (0, 0)))
noncomputable def h1_X8_greatestDivisor_29 : zH 0 := (show zT 0 from (0, 0, 0), (0, (0, 0)))
theorem ev_X8_greatestDivisor_29 : f_X8_greatestDivisor [zL 5, zL 6] h0_X8_greatestDivisor_29 (zrk (zL 1) h1_X8_greatestDivisor_29) = true := by decide +kernel
noncomputable def g_X8_greatestDivisor_29 {d : Nat} : List zV → zH d → zP d → Bool := zsmy [] [zL 5, zL 6] h0_X8_greatestDivisor_29 (zL 1) h1_X8_greatestDivisor_29
theorem mg_X8_greatestDivisor_29 {d : Nat} : zMet (d := d) X_X8_greatestDivisor yX8_greatestDivisor 1 g_X8_greatestDivisor_29 := zMet_sm m_X8_greatestDivisor ev_X8_greatestDivisor_29
noncomputable def h0_X8_greatestDivisor_30 : zH 0 := (show zT 0 from (0, 0, 0), (0, (0, 0)))
noncomputable def h1_X8_greatestDivisor_30 : zH 0 := (show zT 0 from (0, 0, 0), (0, (0, 0)))
theorem ev_X8_greatestDivisor_30 : f_X8_greatestDivisor [zL 6, zL 1] h0_X8_greatestDivisor_30 (zrk (zL 1) h1_X8_greatestDivisor_30) = true := by decide +kernel
noncomputable def g_X8_greatestDivisor_30 {d : Nat} : List zV → zH d → zP d → Bool := zsmy [] [zL 6, zL 1] h0_X8_greatestDivisor_30 (zL 1) h1_X8_greatestDivisor_30
theorem mg_X8_greatestDivisor_30 {d : Nat} : zMet (d := d) X_X8_greatestDivisor yX8_greatestDivisor 1 g_X8_greatestDivisor_30 := zMet_sm m_X8_greatestDivisor ev_X8_greatestDivisor_30
noncomputable def h0_X8_greatestDivisor_31 : zH 0 := (show zT 0 from (0, 0, 0), (0, (0, 0)))
noncomputable def h1_X8_greatestDivisor_31 : zH 0 := (show zT 0 from (0, 0, 0), (0, (0, 0)))
theorem ev_X8_greatestDivisor_31 : f_X8_greatestDivisor [zL 6, zL 2] h0_X8_greatestDivisor_31 (zrk (zL 2) h1_X8_greatestDivisor_31) = true := by decide +kernel
noncomputable def g_X8_greatestDivisor_31 {d : Nat} : List zV → zH d → zP d → Bool := zsmy [] [zL 6, zL 2] h0_X8_greatestDivisor_31 (zL 2) h1_X8_greatestDivisor_31
theorem mg_X8_greatestDivisor_31 {d : Nat} : zMet (d := d) X_X8_greatestDivisor yX8_greatestDivisor 1 g_X8_greatestDivisor_31 := zMet_sm m_X8_greatestDivisor ev_X8_greatestDivisor_31
noncomputable def h0_X8_greatestDivisor_32 : zH 0 := (show zT 0 from (0, 0, 0), (0, (0, 0)))
noncomputable def h1_X8_greatestDivisor_32 : zH 0 := (show zT 0 from (0, 0, 0), (0, (0, 0)))
theorem ev_X8_greatestDivisor_32 : f_X8_greatestDivisor [zL 6, zL 3] h0_X8_greatestDivisor_32 (zrk (zL 3) h1_X8_greatestDivisor_32) = true := by decide +kernel
noncomputable def g_X8_greatestDivisor_32 {d : Nat} : List zV → zH d → zP d → Bool := zsmy [] [zL 6, zL 3] h0_X8_greatestDivisor_32 (zL 3) h1_X8_greatestDivisor_32
theorem mg_X8_greatestDivisor_32 {d : Nat} : zMet (d := d) X_X8_greatestDivisor yX8_greatestDivisor 1 g_X8_greatestDivisor_32 := zMet_sm m_X8_greatestDivisor ev_X8_greatestDivisor_32
noncomputable def h0_X8_greatestDivisor_33 : zH 0 := (show zT 0 from (0, 0, 0), (0, (0, 0)))
noncomputable def h1_X8_greatestDivisor_33 : zH 0 := (show zT 0 from (0, 0, 0), (0, (0, 0)))
theorem ev_X8_greatestDivisor_33 : f_X8_greatestDivisor [zL 6, zL 4] h0_X8_greatestDivisor_33 (zrk (zL 2) h1_X8_greatestDivisor_33) = true := by decide +kernel
noncomputable def g_X8_greatestDivisor_33 {d : Nat} : List zV → zH d → zP d → Bool := zsmy [] [zL 6, zL 4] h0_X8_greatestDivisor_33 (zL 2) h1_X8_greatestDivisor_33
theorem mg_X8_greatestDivisor_33 {d : Nat} : zMet (d := d) X_X8_greatestDivisor yX8_greatestDivisor 1 g_X8_greatestDivisor_33 := zMet_sm m_X8_greatestDivisor ev_X8_greatestDivisor_33
noncomputable def h0_X8_greatestDivisor_34 : zH 0 := (show zT 0 from (0, 0, 0), (0, (0, 0)))
noncomputable def h1_X8_greatestDivisor_34 : zH 0 := (show zT 0 from (0, 0, 0), (0, (0, 0)))
theorem ev_X8_greatestDivisor_34 : f_X8_greatestDivisor [zL 6, zL 5] h0_X8_greatestDivisor_34 (zrk (zL 1) h1_X8_greatestDivisor_34) = true := by decide +kernel
noncomputable def g_X8_greatestDivisor_34 {d : Nat} : List zV → zH d → zP d → Bool := zsmy [] [zL 6, zL 5] h0_X8_greatestDivisor_34 (zL 1) h1_X8_greatestDivisor_34
theorem mg_X8_greatestDivisor_34 {d : Nat} : zMet (d := d) X_X8_greatestDivisor yX8_greatestDivisor 1 g_X8_greatestDivisor_34 := zMet_sm m_X8_greatestDivisor ev_X8_greatestDivisor_34
noncomputable def h0_X8_greatestDivisor_35 : zH 0 := (show zT 0 from (0, 0, 0), (0, (0, 0)))
noncomputable def h1_X8_greatestDivisor_35 : zH 0 := (show zT 0 from (0, 0, 0), (0, (0, 0)))
theorem ev_X8_greatestDivisor_35 : f_X8_greatestDivisor [zL 6, zL 6] h0_X8_greatestDivisor_35 (zrk (zL 6) h1_X8_greatestDivisor_35) = true := by decide +kernel
noncomputable def g_X8_greatestDivisor_35 {d : Nat} : List zV → zH d → zP d → Bool := zsmy [] [zL 6, zL 6] h0_X8_greatestDivisor_35 (zL 6) h1_X8_greatestDivisor_35
theorem mg_X8_greatestDivisor_35 {d : Nat} : zMet (d := d) X_X8_greatestDivisor yX8_greatestDivisor 1 g_X8_greatestDivisor_35 := zMet_sm m_X8_greatestDivisor ev_X8_greatestDivisor_35
noncomputable def g_X8_greatestDivisor {d : Nat} : List zV → zH d → zP d → Bool := (zor2 g_X8_greatestDivisor_0 (zor2 g_X8_greatestDivisor_1 (zor2 g_X8_greatestDivisor_2 (zor2 g_X8_greatestDivisor_3 (zor2 g_X8_greatestDivisor_4 (zor2 g_X8_greatestDivisor_5 (zor2 g_X8_greatestDivisor_6 (zor2 g_X8_greatestDivisor_7 (zor2 g_X8_greatestDivisor_8 (zor2 g_X8_greatestDivisor_9 (zor2 g_X8_greatestDivisor_10 (zor2 g_X8_greatestDivisor_11 (zor2 g_X8_greatestDivisor_12 (zor2 g_X8_greatestDivisor_13 (zor2 g_X8_greatestDivisor_14 (zor2 g_X8_greatestDivisor_15 (zor2 g_X8_greatestDivisor_16 (zor2 g_X8_greatestDivisor_17 (zor2 g_X8_greatestDivisor_18 (zor2 g_X8_greatestDivisor_19 (zor2 g_X8_greatestDivisor_20 (zor2 g_X8_greatestDivisor_21 (zor2 g_X8_greatestDivisor_22 (zor2 g_X8_greatestDivisor_23 (zor2 g_X8_greatestDivisor_24 (zor2 g_X8_greatestDivisor_25 (zor2 g_X8_greatestDivisor_26 (zor2 g_X8_greatestDivisor_27 (zor2 g_X8_greatestDivisor_28 (zor2 g_X8_greatestDivisor_29 (zor2 g_X8_greatestDivisor_30 (zor2 g_X8_greatestDivisor_31 (zor2 g_X8_greatestDivisor_32 (zor2 g_X8_greatestDivisor_33 (zor2 g_X8_greatestDivisor_34 (zor2 g_X8_greatestDivisor_35 (fun _ _ _ => false)))))))))))))))))))))))))))))))))))))
theorem mg_X8_greatestDivisor {d : Nat} : zMet (d := d) X_X8_greatestDivisor yX8_greatestDivisor 1 g_X8_greatestDivisor := (zMet_or mg_X8_greatestDivisor_0 (zMet_or mg_X8_greatestDivisor_1 (zMet_or mg_X8_greatestDivisor_2 (zMet_or mg_X8_greatestDivisor_3 (zMet_or mg_X8_greatestDivisor_4 (zMet_or mg_X8_greatestDivisor_5 (zMet_or mg_X8_greatestDivisor_6 (zMet_or mg_X8_greatestDivisor_7 (zMet_or mg_X8_greatestDivisor_8 (zMet_or mg_X8_greatestDivisor_9 (zMet_or mg_X8_greatestDivisor_10 (zMet_or mg_X8_greatestDivisor_11 (zMet_or mg_X8_greatestDivisor_12 (zMet_or mg_X8_greatestDivisor_13 (zMet_or mg_X8_greatestDivisor_14 (zMet_or mg_X8_greatestDivisor_15 (zMet_or mg_X8_greatestDivisor_16 (zMet_or mg_X8_greatestDivisor_17 (zMet_or mg_X8_greatestDivisor_18 (zMet_or mg_X8_greatestDivisor_19 (zMet_or mg_X8_greatestDivisor_20 (zMet_or mg_X8_greatestDivisor_21 (zMet_or mg_X8_greatestDivisor_22 (zMet_or mg_X8_greatestDivisor_23 (zMet_or mg_X8_greatestDivisor_24 (zMet_or mg_X8_greatestDivisor_25 (zMet_or mg_X8_greatestDivisor_26 (zMet_or mg_X8_greatestDivisor_27 (zMet_or mg_X8_greatestDivisor_28 (zMet_or mg_X8_greatestDivisor_29 (zMet_or mg_X8_greatestDivisor_30 (zMet_or mg_X8_greatestDivisor_31 (zMet_or mg_X8_greatestDivisor_32 (zMet_or mg_X8_greatestDivisor_33 (zMet_or mg_X8_greatestDivisor_34 (zMet_or mg_X8_greatestDivisor_35 zfalse))))))))))))))))))))))))))))))))))))
end
