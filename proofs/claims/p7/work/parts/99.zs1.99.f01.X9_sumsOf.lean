/-! the reference by summaries, by program -/
noncomputable def zk_99_zs1_99_f01_X9_sumsOf_0 : zT 2 := @Prod.mk (zT 1) (zT 1) ((25, 63, bg_174), (0, 12000, zun 40 12000 4294967296)) ((0, 11, bg_175), (0, 11, bg_176))
noncomputable def zk_99_zs1_99_f01_X9_sumsOf_1 : zC := (0, 7, 0x6000000000100000000050000000004000000000300000000020100000000)
noncomputable def zk_99_zs1_99_f01_X9_sumsOf_2 : zT 1 := @Prod.mk (zT 0) (zT 0) (0, 66, bg_6) (0, 6, 0x10000000001000000000100000000010000000001000000000100000000)
noncomputable def zk_99_zs1_99_f01_X9_sumsOf_3 : zC := (0, 7, 0x100000000010000000001000000000100000000010000000001000000000100000000)
noncomputable def zk_99_zs1_99_f01_X9_sumsOf_4 : zT 3 := @Prod.mk (zT 2) (zT 2) ((zk_99_zs1_99_f01_X9_sumsOf_3, (10, 46656, 20)), ((11, 720, 20), (0, 0, 0))) zO2
noncomputable def h0_X9_sumsOf_123 : zH 4 := (show zT 4 from ((zk_99_zs1_99_f01_X9_sumsOf_0, (((0, 456, bg_76), zk_99_zs1_99_f01_X9_sumsOf_1), zk_99_zs1_99_f01_X9_sumsOf_2)), zk_99_zs1_99_f01_X9_sumsOf_4), (11, (0, 0)))
noncomputable def h1_X9_sumsOf_123 : zH 4 := (show zT 4 from ((zk_99_zs1_99_f01_X9_sumsOf_0, (((0, 456, bg_76), zk_99_zs1_99_f01_X9_sumsOf_1), zk_99_zs1_99_f01_X9_sumsOf_2)), zk_99_zs1_99_f01_X9_sumsOf_4), (11, (0, 0)))
theorem ev_X9_sumsOf_123 : f_X9_sumsOfa [zR 1, zR 2] h0_X9_sumsOf_123 (zrk (zU) h1_X9_sumsOf_123) = true := by decide +kernel
noncomputable def g_X9_sumsOf_123 {d : Nat} : List zV → zH d → zP d → Bool := zsmyM [(0, 0), (0, 1), (1, 21), (1, 20), (1, 22), (1, 33), (1, 3), (1, 31), (1, 32), (1, 26), (1, 27)] [zR 1, zR 2] h0_X9_sumsOf_123 (zU) h1_X9_sumsOf_123
theorem mg_X9_sumsOf_123 {d : Nat} : zMet (d := d) X_X9_sumsOf yX9_sumsOf 17 g_X9_sumsOf_123 := zMet_smM m_X9_sumsOfa ev_X9_sumsOf_123
noncomputable def zk_99_zs1_99_f01_X9_sumsOf_5 : zC := (0, 7, 0x4000000000600000000050000000001000000000300000000020100000000)
noncomputable def h0_X9_sumsOf_124 : zH 4 := (show zT 4 from ((zk_99_zs1_99_f01_X9_sumsOf_0, (((0, 456, bg_76), zk_99_zs1_99_f01_X9_sumsOf_5), zk_99_zs1_99_f01_X9_sumsOf_2)), zk_99_zs1_99_f01_X9_sumsOf_4), (11, (0, 0)))
noncomputable def h1_X9_sumsOf_124 : zH 4 := (show zT 4 from ((zk_99_zs1_99_f01_X9_sumsOf_0, (((0, 456, bg_76), zk_99_zs1_99_f01_X9_sumsOf_5), zk_99_zs1_99_f01_X9_sumsOf_2)), zk_99_zs1_99_f01_X9_sumsOf_4), (11, (0, 0)))
theorem ev_X9_sumsOf_124 : f_X9_sumsOfa [zR 1, zR 2] h0_X9_sumsOf_124 (zrk (zU) h1_X9_sumsOf_124) = true := by decide +kernel
noncomputable def g_X9_sumsOf_124 {d : Nat} : List zV → zH d → zP d → Bool := zsmyM [(0, 0), (0, 1), (1, 21), (1, 20), (1, 22), (1, 33), (1, 3), (1, 31), (1, 32), (1, 26), (1, 27)] [zR 1, zR 2] h0_X9_sumsOf_124 (zU) h1_X9_sumsOf_124
theorem mg_X9_sumsOf_124 {d : Nat} : zMet (d := d) X_X9_sumsOf yX9_sumsOf 17 g_X9_sumsOf_124 := zMet_smM m_X9_sumsOfa ev_X9_sumsOf_124
noncomputable def zk_99_zs1_99_f01_X9_sumsOf_6 : zC := (0, 7, 0x6000000000500000000040000000001000000000300000000020100000000)
noncomputable def h0_X9_sumsOf_125 : zH 4 := (show zT 4 from ((zk_99_zs1_99_f01_X9_sumsOf_0, (((0, 456, bg_76), zk_99_zs1_99_f01_X9_sumsOf_6), zk_99_zs1_99_f01_X9_sumsOf_2)), zk_99_zs1_99_f01_X9_sumsOf_4), (11, (0, 0)))
noncomputable def h1_X9_sumsOf_125 : zH 4 := (show zT 4 from ((zk_99_zs1_99_f01_X9_sumsOf_0, (((0, 456, bg_76), zk_99_zs1_99_f01_X9_sumsOf_6), zk_99_zs1_99_f01_X9_sumsOf_2)), zk_99_zs1_99_f01_X9_sumsOf_4), (11, (0, 0)))
theorem ev_X9_sumsOf_125 : f_X9_sumsOfa [zR 1, zR 2] h0_X9_sumsOf_125 (zrk (zU) h1_X9_sumsOf_125) = true := by decide +kernel
noncomputable def g_X9_sumsOf_125 {d : Nat} : List zV → zH d → zP d → Bool := zsmyM [(0, 0), (0, 1), (1, 21), (1, 20), (1, 22), (1, 33), (1, 3), (1, 31), (1, 32), (1, 26), (1, 27)] [zR 1, zR 2] h0_X9_sumsOf_125 (zU) h1_X9_sumsOf_125
theorem mg_X9_sumsOf_125 {d : Nat} : zMet (d := d) X_X9_sumsOf yX9_sumsOf 17 g_X9_sumsOf_125 := zMet_smM m_X9_sumsOfa ev_X9_sumsOf_125
noncomputable def zk_99_zs1_99_f01_X9_sumsOf_7 : zT 2 := @Prod.mk (zT 1) (zT 1) ((25, 63, bg_177), (0, 12000, zun 40 12000 4294967296)) ((0, 11, bg_178), (0, 11, bg_179))
noncomputable def zk_99_zs1_99_f01_X9_sumsOf_8 : zC := (0, 7, 0x6000000000500000000040000000003000000000200000000010100000000)
noncomputable def zk_99_zs1_99_f01_X9_sumsOf_9 : zT 3 := @Prod.mk (zT 2) (zT 2) ((zk_99_zs1_99_f01_X9_sumsOf_3, (10, 46656, 76)), ((11, 720, 76), (0, 0, 0))) zO2
noncomputable def h0_X9_sumsOf_126 : zH 4 := (show zT 4 from ((zk_99_zs1_99_f01_X9_sumsOf_7, (((0, 456, bg_79), zk_99_zs1_99_f01_X9_sumsOf_8), zk_99_zs1_99_f01_X9_sumsOf_2)), zk_99_zs1_99_f01_X9_sumsOf_9), (11, (0, 0)))
noncomputable def h1_X9_sumsOf_126 : zH 4 := (show zT 4 from ((zk_99_zs1_99_f01_X9_sumsOf_7, (((0, 456, bg_79), zk_99_zs1_99_f01_X9_sumsOf_8), zk_99_zs1_99_f01_X9_sumsOf_2)), zk_99_zs1_99_f01_X9_sumsOf_9), (11, (0, 0)))
theorem ev_X9_sumsOf_126 : f_X9_sumsOfa [zR 1, zR 2] h0_X9_sumsOf_126 (zrk (zU) h1_X9_sumsOf_126) = true := by decide +kernel
noncomputable def g_X9_sumsOf_126 {d : Nat} : List zV → zH d → zP d → Bool := zsmyM [(0, 0), (0, 1), (1, 21), (1, 20), (1, 22), (1, 33), (1, 3), (1, 31), (1, 32), (1, 26), (1, 27)] [zR 1, zR 2] h0_X9_sumsOf_126 (zU) h1_X9_sumsOf_126
theorem mg_X9_sumsOf_126 {d : Nat} : zMet (d := d) X_X9_sumsOf yX9_sumsOf 17 g_X9_sumsOf_126 := zMet_smM m_X9_sumsOfa ev_X9_sumsOf_126
noncomputable def zk_99_zs1_99_f01_X9_sumsOf_10 : zT 2 := @Prod.mk (zT 1) (zT 1) ((25, 63, bg_180), (0, 12000, zun 40 12000 4294967296)) ((0, 11, bg_181), (0, 11, bg_182))
noncomputable def zk_99_zs1_99_f01_X9_sumsOf_11 : zT 3 := @Prod.mk (zT 2) (zT 2) ((zk_99_zs1_99_f01_X9_sumsOf_3, (10, 46656, 27)), ((11, 720, 27), (0, 0, 0))) zO2
noncomputable def h0_X9_sumsOf_127 : zH 4 := (show zT 4 from ((zk_99_zs1_99_f01_X9_sumsOf_10, (((0, 456, bg_82), zk_99_zs1_99_f01_X9_sumsOf_8), zk_99_zs1_99_f01_X9_sumsOf_2)), zk_99_zs1_99_f01_X9_sumsOf_11), (11, (0, 0)))
noncomputable def h1_X9_sumsOf_127 : zH 4 := (show zT 4 from ((zk_99_zs1_99_f01_X9_sumsOf_10, (((0, 456, bg_82), zk_99_zs1_99_f01_X9_sumsOf_8), zk_99_zs1_99_f01_X9_sumsOf_2)), zk_99_zs1_99_f01_X9_sumsOf_11), (11, (0, 0)))
theorem ev_X9_sumsOf_127 : f_X9_sumsOfa [zR 1, zR 2] h0_X9_sumsOf_127 (zrk (zU) h1_X9_sumsOf_127) = true := by decide +kernel
noncomputable def g_X9_sumsOf_127 {d : Nat} : List zV → zH d → zP d → Bool := zsmyM [(0, 0), (0, 1), (1, 21), (1, 20), (1, 22), (1, 33), (1, 3), (1, 31), (1, 32), (1, 26), (1, 27)] [zR 1, zR 2] h0_X9_sumsOf_127 (zU) h1_X9_sumsOf_127
theorem mg_X9_sumsOf_127 {d : Nat} : zMet (d := d) X_X9_sumsOf yX9_sumsOf 17 g_X9_sumsOf_127 := zMet_smM m_X9_sumsOfa ev_X9_sumsOf_127
noncomputable def zk_99_zs1_99_f01_X9_sumsOf_12 : zT 2 := @Prod.mk (zT 1) (zT 1) ((25, 63, bg_183), (0, 12000, zun 40 12000 4294967296)) ((0, 11, bg_184), (0, 11, bg_185))
noncomputable def zk_99_zs1_99_f01_X9_sumsOf_13 : zT 3 := @Prod.mk (zT 2) (zT 2) ((zk_99_zs1_99_f01_X9_sumsOf_3, (10, 46656, 83)), ((11, 720, 83), (0, 0, 0))) zO2
noncomputable def h0_X9_sumsOf_128 : zH 4 := (show zT 4 from ((zk_99_zs1_99_f01_X9_sumsOf_12, (((0, 456, bg_85), zk_99_zs1_99_f01_X9_sumsOf_8), zk_99_zs1_99_f01_X9_sumsOf_2)), zk_99_zs1_99_f01_X9_sumsOf_13), (11, (0, 0)))
noncomputable def h1_X9_sumsOf_128 : zH 4 := (show zT 4 from ((zk_99_zs1_99_f01_X9_sumsOf_12, (((0, 456, bg_85), zk_99_zs1_99_f01_X9_sumsOf_8), zk_99_zs1_99_f01_X9_sumsOf_2)), zk_99_zs1_99_f01_X9_sumsOf_13), (11, (0, 0)))
theorem ev_X9_sumsOf_128 : f_X9_sumsOfa [zR 1, zR 2] h0_X9_sumsOf_128 (zrk (zU) h1_X9_sumsOf_128) = true := by decide +kernel
noncomputable def g_X9_sumsOf_128 {d : Nat} : List zV → zH d → zP d → Bool := zsmyM [(0, 0), (0, 1), (1, 21), (1, 20), (1, 22), (1, 33), (1, 3), (1, 31), (1, 32), (1, 26), (1, 27)] [zR 1, zR 2] h0_X9_sumsOf_128 (zU) h1_X9_sumsOf_128
theorem mg_X9_sumsOf_128 {d : Nat} : zMet (d := d) X_X9_sumsOf yX9_sumsOf 17 g_X9_sumsOf_128 := zMet_smM m_X9_sumsOfa ev_X9_sumsOf_128
noncomputable def h0_X9_sumsOf_129 : zH 4 := (show zT 4 from ((zk_99_zs1_99_f01_X9_sumsOf_12, (((0, 456, bg_85), zk_99_zs1_99_f01_X9_sumsOf_1), zk_99_zs1_99_f01_X9_sumsOf_2)), zk_99_zs1_99_f01_X9_sumsOf_13), (11, (0, 0)))
noncomputable def h1_X9_sumsOf_129 : zH 4 := (show zT 4 from ((zk_99_zs1_99_f01_X9_sumsOf_12, (((0, 456, bg_85), zk_99_zs1_99_f01_X9_sumsOf_1), zk_99_zs1_99_f01_X9_sumsOf_2)), zk_99_zs1_99_f01_X9_sumsOf_13), (11, (0, 0)))
theorem ev_X9_sumsOf_129 : f_X9_sumsOfa [zR 1, zR 2] h0_X9_sumsOf_129 (zrk (zU) h1_X9_sumsOf_129) = true := by decide +kernel
noncomputable def g_X9_sumsOf_129 {d : Nat} : List zV → zH d → zP d → Bool := zsmyM [(0, 0), (0, 1), (1, 21), (1, 20), (1, 22), (1, 33), (1, 3), (1, 31), (1, 32), (1, 26), (1, 27)] [zR 1, zR 2] h0_X9_sumsOf_129 (zU) h1_X9_sumsOf_129
theorem mg_X9_sumsOf_129 {d : Nat} : zMet (d := d) X_X9_sumsOf yX9_sumsOf 17 g_X9_sumsOf_129 := zMet_smM m_X9_sumsOfa ev_X9_sumsOf_129
noncomputable def h0_X9_sumsOf_130 : zH 4 := (show zT 4 from ((zk_99_zs1_99_f01_X9_sumsOf_12, (((0, 456, bg_85), zk_99_zs1_99_f01_X9_sumsOf_5), zk_99_zs1_99_f01_X9_sumsOf_2)), zk_99_zs1_99_f01_X9_sumsOf_13), (11, (0, 0)))
noncomputable def h1_X9_sumsOf_130 : zH 4 := (show zT 4 from ((zk_99_zs1_99_f01_X9_sumsOf_12, (((0, 456, bg_85), zk_99_zs1_99_f01_X9_sumsOf_5), zk_99_zs1_99_f01_X9_sumsOf_2)), zk_99_zs1_99_f01_X9_sumsOf_13), (11, (0, 0)))
theorem ev_X9_sumsOf_130 : f_X9_sumsOfa [zR 1, zR 2] h0_X9_sumsOf_130 (zrk (zU) h1_X9_sumsOf_130) = true := by decide +kernel
noncomputable def g_X9_sumsOf_130 {d : Nat} : List zV → zH d → zP d → Bool := zsmyM [(0, 0), (0, 1), (1, 21), (1, 20), (1, 22), (1, 33), (1, 3), (1, 31), (1, 32), (1, 26), (1, 27)] [zR 1, zR 2] h0_X9_sumsOf_130 (zU) h1_X9_sumsOf_130
theorem mg_X9_sumsOf_130 {d : Nat} : zMet (d := d) X_X9_sumsOf yX9_sumsOf 17 g_X9_sumsOf_130 := zMet_smM m_X9_sumsOfa ev_X9_sumsOf_130
noncomputable def h0_X9_sumsOf_131 : zH 4 := (show zT 4 from ((zk_99_zs1_99_f01_X9_sumsOf_12, (((0, 456, bg_85), zk_99_zs1_99_f01_X9_sumsOf_6), zk_99_zs1_99_f01_X9_sumsOf_2)), zk_99_zs1_99_f01_X9_sumsOf_13), (11, (0, 0)))
noncomputable def h1_X9_sumsOf_131 : zH 4 := (show zT 4 from ((zk_99_zs1_99_f01_X9_sumsOf_12, (((0, 456, bg_85), zk_99_zs1_99_f01_X9_sumsOf_6), zk_99_zs1_99_f01_X9_sumsOf_2)), zk_99_zs1_99_f01_X9_sumsOf_13), (11, (0, 0)))
theorem ev_X9_sumsOf_131 : f_X9_sumsOfa [zR 1, zR 2] h0_X9_sumsOf_131 (zrk (zU) h1_X9_sumsOf_131) = true := by decide +kernel
noncomputable def g_X9_sumsOf_131 {d : Nat} : List zV → zH d → zP d → Bool := zsmyM [(0, 0), (0, 1), (1, 21), (1, 20), (1, 22), (1, 33), (1, 3), (1, 31), (1, 32), (1, 26), (1, 27)] [zR 1, zR 2] h0_X9_sumsOf_131 (zU) h1_X9_sumsOf_131
theorem mg_X9_sumsOf_131 {d : Nat} : zMet (d := d) X_X9_sumsOf yX9_sumsOf 17 g_X9_sumsOf_131 := zMet_smM m_X9_sumsOfa ev_X9_sumsOf_131
noncomputable def h0_X9_sumsOf_132 : zH 4 := (show zT 4 from (((((25, 63, bg_186), (0, 12000, zun 40 12000 4294967296)), ((0, 11, bg_187), (0, 11, bg_188))), (((0, 456, bg_88), zk_99_zs1_99_f01_X9_sumsOf_8), zk_99_zs1_99_f01_X9_sumsOf_2)), (((zk_99_zs1_99_f01_X9_sumsOf_3, (10, 46656, 587)), ((11, 720, 587), (0, 0, 0))), zO2)), (11, (0, 0)))
noncomputable def h1_X9_sumsOf_132 : zH 4 := (show zT 4 from (((((25, 63, bg_186), (0, 12000, zun 40 12000 4294967296)), ((0, 11, bg_187), (0, 11, bg_188))), (((0, 456, bg_88), zk_99_zs1_99_f01_X9_sumsOf_8), zk_99_zs1_99_f01_X9_sumsOf_2)), (((zk_99_zs1_99_f01_X9_sumsOf_3, (10, 46656, 587)), ((11, 720, 587), (0, 0, 0))), zO2)), (11, (0, 0)))
theorem ev_X9_sumsOf_132 : f_X9_sumsOfa [zR 1, zR 2] h0_X9_sumsOf_132 (zrk (zU) h1_X9_sumsOf_132) = true := by decide +kernel
noncomputable def g_X9_sumsOf_132 {d : Nat} : List zV → zH d → zP d → Bool := zsmyM [(0, 0), (0, 1), (1, 21), (1, 20), (1, 22), (1, 33), (1, 3), (1, 31), (1, 32), (1, 26), (1, 27)] [zR 1, zR 2] h0_X9_sumsOf_132 (zU) h1_X9_sumsOf_132
theorem mg_X9_sumsOf_132 {d : Nat} : zMet (d := d) X_X9_sumsOf yX9_sumsOf 17 g_X9_sumsOf_132 := zMet_smM m_X9_sumsOfa ev_X9_sumsOf_132
noncomputable def h0_X9_sumsOf_133 : zH 4 := (show zT 4 from (((((25, 63, bg_189), (0, 12000, zun 40 12000 4294967296)), ((0, 11, bg_190), (0, 11, bg_191))), (((0, 456, bg_91), zk_99_zs1_99_f01_X9_sumsOf_8), zk_99_zs1_99_f01_X9_sumsOf_2)), (((zk_99_zs1_99_f01_X9_sumsOf_3, (10, 46656, 146)), ((11, 720, 146), (0, 0, 0))), zO2)), (11, (0, 0)))
noncomputable def h1_X9_sumsOf_133 : zH 4 := (show zT 4 from (((((25, 63, bg_189), (0, 12000, zun 40 12000 4294967296)), ((0, 11, bg_190), (0, 11, bg_191))), (((0, 456, bg_91), zk_99_zs1_99_f01_X9_sumsOf_8), zk_99_zs1_99_f01_X9_sumsOf_2)), (((zk_99_zs1_99_f01_X9_sumsOf_3, (10, 46656, 146)), ((11, 720, 146), (0, 0, 0))), zO2)), (11, (0, 0)))
theorem ev_X9_sumsOf_133 : f_X9_sumsOfa [zR 1, zR 2] h0_X9_sumsOf_133 (zrk (zU) h1_X9_sumsOf_133) = true := by decide +kernel
noncomputable def g_X9_sumsOf_133 {d : Nat} : List zV → zH d → zP d → Bool := zsmyM [(0, 0), (0, 1), (1, 21), (1, 20), (1, 22), (1, 33), (1, 3), (1, 31), (1, 32), (1, 26), (1, 27)] [zR 1, zR 2] h0_X9_sumsOf_133 (zU) h1_X9_sumsOf_133
theorem mg_X9_sumsOf_133 {d : Nat} : zMet (d := d) X_X9_sumsOf yX9_sumsOf 17 g_X9_sumsOf_133 := zMet_smM m_X9_sumsOfa ev_X9_sumsOf_133
noncomputable def h0_X9_sumsOf_134 : zH 4 := (show zT 4 from (((((25, 63, bg_192), (0, 12000, zun 40 12000 4294967296)), ((0, 11, bg_193), (0, 11, bg_194))), (((0, 456, bg_94), zk_99_zs1_99_f01_X9_sumsOf_8), zk_99_zs1_99_f01_X9_sumsOf_2)), (((zk_99_zs1_99_f01_X9_sumsOf_3, (10, 46656, 594)), ((11, 720, 594), (0, 0, 0))), zO2)), (11, (0, 0)))
noncomputable def h1_X9_sumsOf_134 : zH 4 := (show zT 4 from (((((25, 63, bg_192), (0, 12000, zun 40 12000 4294967296)), ((0, 11, bg_193), (0, 11, bg_194))), (((0, 456, bg_94), zk_99_zs1_99_f01_X9_sumsOf_8), zk_99_zs1_99_f01_X9_sumsOf_2)), (((zk_99_zs1_99_f01_X9_sumsOf_3, (10, 46656, 594)), ((11, 720, 594), (0, 0, 0))), zO2)), (11, (0, 0)))
theorem ev_X9_sumsOf_134 : f_X9_sumsOfa [zR 1, zR 2] h0_X9_sumsOf_134 (zrk (zU) h1_X9_sumsOf_134) = true := by decide +kernel
noncomputable def g_X9_sumsOf_134 {d : Nat} : List zV → zH d → zP d → Bool := zsmyM [(0, 0), (0, 1), (1, 21), (1, 20), (1, 22), (1, 33), (1, 3), (1, 31), (1, 32), (1, 26), (1, 27)] [zR 1, zR 2] h0_X9_sumsOf_134 (zU) h1_X9_sumsOf_134
theorem mg_X9_sumsOf_134 {d : Nat} : zMet (d := d) X_X9_sumsOf yX9_sumsOf 17 g_X9_sumsOf_134 := zMet_smM m_X9_sumsOfa ev_X9_sumsOf_134
noncomputable def h0_X9_sumsOf_135 : zH 4 := (show zT 4 from (((((25, 63, bg_195), (0, 12000, zun 40 12000 4294967296)), ((0, 11, bg_196), (0, 11, bg_197))), (((0, 456, bg_97), zk_99_zs1_99_f01_X9_sumsOf_8), zk_99_zs1_99_f01_X9_sumsOf_2)), (((zk_99_zs1_99_f01_X9_sumsOf_3, (10, 46656, 4682)), ((11, 720, 4682), (0, 0, 0))), zO2)), (11, (0, 0)))
noncomputable def h1_X9_sumsOf_135 : zH 4 := (show zT 4 from (((((25, 63, bg_195), (0, 12000, zun 40 12000 4294967296)), ((0, 11, bg_196), (0, 11, bg_197))), (((0, 456, bg_97), zk_99_zs1_99_f01_X9_sumsOf_8), zk_99_zs1_99_f01_X9_sumsOf_2)), (((zk_99_zs1_99_f01_X9_sumsOf_3, (10, 46656, 4682)), ((11, 720, 4682), (0, 0, 0))), zO2)), (11, (0, 0)))
theorem ev_X9_sumsOf_135 : f_X9_sumsOfa [zR 1, zR 2] h0_X9_sumsOf_135 (zrk (zU) h1_X9_sumsOf_135) = true := by decide +kernel
noncomputable def g_X9_sumsOf_135 {d : Nat} : List zV → zH d → zP d → Bool := zsmyM [(0, 0), (0, 1), (1, 21), (1, 20), (1, 22), (1, 33), (1, 3), (1, 31), (1, 32), (1, 26), (1, 27)] [zR 1, zR 2] h0_X9_sumsOf_135 (zU) h1_X9_sumsOf_135
theorem mg_X9_sumsOf_135 {d : Nat} : zMet (d := d) X_X9_sumsOf yX9_sumsOf 17 g_X9_sumsOf_135 := zMet_smM m_X9_sumsOfa ev_X9_sumsOf_135
noncomputable def h0_X9_sumsOf_136 : zH 4 := (show zT 4 from (((((25, 63, bg_198), (0, 12000, zun 40 12000 4294967296)), ((0, 11, bg_199), (0, 11, bg_200))), (((0, 456, bg_100), zk_99_zs1_99_f01_X9_sumsOf_8), zk_99_zs1_99_f01_X9_sumsOf_2)), (((zk_99_zs1_99_f01_X9_sumsOf_3, (10, 46656, 37449)), ((11, 720, 37449), (0, 0, 0))), zO2)), (11, (0, 0)))
noncomputable def h1_X9_sumsOf_136 : zH 4 := (show zT 4 from (((((25, 63, bg_198), (0, 12000, zun 40 12000 4294967296)), ((0, 11, bg_199), (0, 11, bg_200))), (((0, 456, bg_100), zk_99_zs1_99_f01_X9_sumsOf_8), zk_99_zs1_99_f01_X9_sumsOf_2)), (((zk_99_zs1_99_f01_X9_sumsOf_3, (10, 46656, 37449)), ((11, 720, 37449), (0, 0, 0))), zO2)), (11, (0, 0)))
theorem ev_X9_sumsOf_136 : f_X9_sumsOfa [zR 1, zR 2] h0_X9_sumsOf_136 (zrk (zU) h1_X9_sumsOf_136) = true := by decide +kernel
noncomputable def g_X9_sumsOf_136 {d : Nat} : List zV → zH d → zP d → Bool := zsmyM [(0, 0), (0, 1), (1, 21), (1, 20), (1, 22), (1, 33), (1, 3), (1, 31), (1, 32), (1, 26), (1, 27)] [zR 1, zR 2] h0_X9_sumsOf_136 (zU) h1_X9_sumsOf_136
theorem mg_X9_sumsOf_136 {d : Nat} : zMet (d := d) X_X9_sumsOf yX9_sumsOf 17 g_X9_sumsOf_136 := zMet_smM m_X9_sumsOfa ev_X9_sumsOf_136
noncomputable def zk_99_zs1_99_f01_X9_sumsOf_14 : zT 2 := @Prod.mk (zT 1) (zT 1) ((25, 63, bg_171), (0, 12000, zun 40 12000 4294967296)) ((0, 11, bg_8), (0, 11, bg_131))
noncomputable def zk_99_zs1_99_f01_X9_sumsOf_15 : zC := (0, 7, 0x5000000000600000000010000000004000000000300000000020100000000)
noncomputable def zk_99_zs1_99_f01_X9_sumsOf_16 : zT 3 := @Prod.mk (zT 2) (zT 2) ((zk_99_zs1_99_f01_X9_sumsOf_3, (10, 46656, 6)), ((11, 720, 6), (0, 0, 0))) zO2
noncomputable def h0_X9_sumsOf_137 : zH 4 := (show zT 4 from ((zk_99_zs1_99_f01_X9_sumsOf_14, (((0, 456, bg_70), zk_99_zs1_99_f01_X9_sumsOf_15), zk_99_zs1_99_f01_X9_sumsOf_2)), zk_99_zs1_99_f01_X9_sumsOf_16), (11, (0, 0)))
noncomputable def h1_X9_sumsOf_137 : zH 4 := (show zT 4 from ((zk_99_zs1_99_f01_X9_sumsOf_14, (((0, 456, bg_70), zk_99_zs1_99_f01_X9_sumsOf_15), zk_99_zs1_99_f01_X9_sumsOf_2)), zk_99_zs1_99_f01_X9_sumsOf_16), (11, (0, 0)))
theorem ev_X9_sumsOf_137 : f_X9_sumsOfa [zR 1, zR 2] h0_X9_sumsOf_137 (zrk (zU) h1_X9_sumsOf_137) = true := by decide +kernel
noncomputable def g_X9_sumsOf_137 {d : Nat} : List zV → zH d → zP d → Bool := zsmyM [(0, 0), (0, 1), (1, 21), (1, 20), (1, 22), (1, 33), (1, 3), (1, 31), (1, 32), (1, 26), (1, 27)] [zR 1, zR 2] h0_X9_sumsOf_137 (zU) h1_X9_sumsOf_137
theorem mg_X9_sumsOf_137 {d : Nat} : zMet (d := d) X_X9_sumsOf yX9_sumsOf 17 g_X9_sumsOf_137 := zMet_smM m_X9_sumsOfa ev_X9_sumsOf_137
noncomputable def zk_99_zs1_99_f01_X9_sumsOf_17 : zC := (0, 7, 0x6000000000500000000020000000001000000000400000000030100000000)
noncomputable def h0_X9_sumsOf_138 : zH 4 := (show zT 4 from ((zk_99_zs1_99_f01_X9_sumsOf_14, (((0, 456, bg_70), zk_99_zs1_99_f01_X9_sumsOf_17), zk_99_zs1_99_f01_X9_sumsOf_2)), zk_99_zs1_99_f01_X9_sumsOf_16), (11, (0, 0)))
noncomputable def h1_X9_sumsOf_138 : zH 4 := (show zT 4 from ((zk_99_zs1_99_f01_X9_sumsOf_14, (((0, 456, bg_70), zk_99_zs1_99_f01_X9_sumsOf_17), zk_99_zs1_99_f01_X9_sumsOf_2)), zk_99_zs1_99_f01_X9_sumsOf_16), (11, (0, 0)))
theorem ev_X9_sumsOf_138 : f_X9_sumsOfa [zR 1, zR 2] h0_X9_sumsOf_138 (zrk (zU) h1_X9_sumsOf_138) = true := by decide +kernel
noncomputable def g_X9_sumsOf_138 {d : Nat} : List zV → zH d → zP d → Bool := zsmyM [(0, 0), (0, 1), (1, 21), (1, 20), (1, 22), (1, 33), (1, 3), (1, 31), (1, 32), (1, 26), (1, 27)] [zR 1, zR 2] h0_X9_sumsOf_138 (zU) h1_X9_sumsOf_138
theorem mg_X9_sumsOf_138 {d : Nat} : zMet (d := d) X_X9_sumsOf yX9_sumsOf 17 g_X9_sumsOf_138 := zMet_smM m_X9_sumsOfa ev_X9_sumsOf_138
noncomputable def zk_99_zs1_99_f01_X9_sumsOf_18 : zC := (0, 7, 0x6000000000500000000010000000004000000000300000000020100000000)
noncomputable def h0_X9_sumsOf_139 : zH 4 := (show zT 4 from ((zk_99_zs1_99_f01_X9_sumsOf_14, (((0, 456, bg_70), zk_99_zs1_99_f01_X9_sumsOf_18), zk_99_zs1_99_f01_X9_sumsOf_2)), zk_99_zs1_99_f01_X9_sumsOf_16), (11, (0, 0)))
noncomputable def h1_X9_sumsOf_139 : zH 4 := (show zT 4 from ((zk_99_zs1_99_f01_X9_sumsOf_14, (((0, 456, bg_70), zk_99_zs1_99_f01_X9_sumsOf_18), zk_99_zs1_99_f01_X9_sumsOf_2)), zk_99_zs1_99_f01_X9_sumsOf_16), (11, (0, 0)))
theorem ev_X9_sumsOf_139 : f_X9_sumsOfa [zR 1, zR 2] h0_X9_sumsOf_139 (zrk (zU) h1_X9_sumsOf_139) = true := by decide +kernel
noncomputable def g_X9_sumsOf_139 {d : Nat} : List zV → zH d → zP d → Bool := zsmyM [(0, 0), (0, 1), (1, 21), (1, 20), (1, 22), (1, 33), (1, 3), (1, 31), (1, 32), (1, 26), (1, 27)] [zR 1, zR 2] h0_X9_sumsOf_139 (zU) h1_X9_sumsOf_139
theorem mg_X9_sumsOf_139 {d : Nat} : zMet (d := d) X_X9_sumsOf yX9_sumsOf 17 g_X9_sumsOf_139 := zMet_smM m_X9_sumsOfa ev_X9_sumsOf_139
noncomputable def zk_99_zs1_99_f01_X9_sumsOf_19 : zC := (0, 7, 0x5000000000600000000030000000004000000000100000000020100000000)
noncomputable def h0_X9_sumsOf_140 : zH 4 := (show zT 4 from ((zk_99_zs1_99_f01_X9_sumsOf_14, (((0, 456, bg_70), zk_99_zs1_99_f01_X9_sumsOf_19), zk_99_zs1_99_f01_X9_sumsOf_2)), zk_99_zs1_99_f01_X9_sumsOf_16), (11, (0, 0)))
noncomputable def h1_X9_sumsOf_140 : zH 4 := (show zT 4 from ((zk_99_zs1_99_f01_X9_sumsOf_14, (((0, 456, bg_70), zk_99_zs1_99_f01_X9_sumsOf_19), zk_99_zs1_99_f01_X9_sumsOf_2)), zk_99_zs1_99_f01_X9_sumsOf_16), (11, (0, 0)))
theorem ev_X9_sumsOf_140 : f_X9_sumsOfa [zR 1, zR 2] h0_X9_sumsOf_140 (zrk (zU) h1_X9_sumsOf_140) = true := by decide +kernel
noncomputable def g_X9_sumsOf_140 {d : Nat} : List zV → zH d → zP d → Bool := zsmyM [(0, 0), (0, 1), (1, 21), (1, 20), (1, 22), (1, 33), (1, 3), (1, 31), (1, 32), (1, 26), (1, 27)] [zR 1, zR 2] h0_X9_sumsOf_140 (zU) h1_X9_sumsOf_140
theorem mg_X9_sumsOf_140 {d : Nat} : zMet (d := d) X_X9_sumsOf yX9_sumsOf 17 g_X9_sumsOf_140 := zMet_smM m_X9_sumsOfa ev_X9_sumsOf_140
noncomputable def zk_99_zs1_99_f01_X9_sumsOf_20 : zC := (0, 7, 0x6000000000500000000030000000004000000000100000000020100000000)
noncomputable def h0_X9_sumsOf_141 : zH 4 := (show zT 4 from ((zk_99_zs1_99_f01_X9_sumsOf_14, (((0, 456, bg_70), zk_99_zs1_99_f01_X9_sumsOf_20), zk_99_zs1_99_f01_X9_sumsOf_2)), zk_99_zs1_99_f01_X9_sumsOf_16), (11, (0, 0)))
noncomputable def h1_X9_sumsOf_141 : zH 4 := (show zT 4 from ((zk_99_zs1_99_f01_X9_sumsOf_14, (((0, 456, bg_70), zk_99_zs1_99_f01_X9_sumsOf_20), zk_99_zs1_99_f01_X9_sumsOf_2)), zk_99_zs1_99_f01_X9_sumsOf_16), (11, (0, 0)))
theorem ev_X9_sumsOf_141 : f_X9_sumsOfa [zR 1, zR 2] h0_X9_sumsOf_141 (zrk (zU) h1_X9_sumsOf_141) = true := by decide +kernel
noncomputable def g_X9_sumsOf_141 {d : Nat} : List zV → zH d → zP d → Bool := zsmyM [(0, 0), (0, 1), (1, 21), (1, 20), (1, 22), (1, 33), (1, 3), (1, 31), (1, 32), (1, 26), (1, 27)] [zR 1, zR 2] h0_X9_sumsOf_141 (zU) h1_X9_sumsOf_141
theorem mg_X9_sumsOf_141 {d : Nat} : zMet (d := d) X_X9_sumsOf yX9_sumsOf 17 g_X9_sumsOf_141 := zMet_smM m_X9_sumsOfa ev_X9_sumsOf_141
noncomputable def zk_99_zs1_99_f01_X9_sumsOf_21 : zC := (0, 7, 0x6000000000500000000040000000003000000000100000000020100000000)
noncomputable def h0_X9_sumsOf_142 : zH 4 := (show zT 4 from ((zk_99_zs1_99_f01_X9_sumsOf_14, (((0, 456, bg_70), zk_99_zs1_99_f01_X9_sumsOf_21), zk_99_zs1_99_f01_X9_sumsOf_2)), zk_99_zs1_99_f01_X9_sumsOf_16), (11, (0, 0)))
noncomputable def h1_X9_sumsOf_142 : zH 4 := (show zT 4 from ((zk_99_zs1_99_f01_X9_sumsOf_14, (((0, 456, bg_70), zk_99_zs1_99_f01_X9_sumsOf_21), zk_99_zs1_99_f01_X9_sumsOf_2)), zk_99_zs1_99_f01_X9_sumsOf_16), (11, (0, 0)))
theorem ev_X9_sumsOf_142 : f_X9_sumsOfa [zR 1, zR 2] h0_X9_sumsOf_142 (zrk (zU) h1_X9_sumsOf_142) = true := by decide +kernel
noncomputable def g_X9_sumsOf_142 {d : Nat} : List zV → zH d → zP d → Bool := zsmyM [(0, 0), (0, 1), (1, 21), (1, 20), (1, 22), (1, 33), (1, 3), (1, 31), (1, 32), (1, 26), (1, 27)] [zR 1, zR 2] h0_X9_sumsOf_142 (zU) h1_X9_sumsOf_142
theorem mg_X9_sumsOf_142 {d : Nat} : zMet (d := d) X_X9_sumsOf yX9_sumsOf 17 g_X9_sumsOf_142 := zMet_smM m_X9_sumsOfa ev_X9_sumsOf_142
noncomputable def zk_99_zs1_99_f01_X9_sumsOf_22 : zT 2 := @Prod.mk (zT 1) (zT 1) ((25, 63, bg_172), (0, 12000, zun 40 12000 4294967296)) ((0, 11, bg_173), (0, 11, bg_135))
noncomputable def zk_99_zs1_99_f01_X9_sumsOf_23 : zT 3 := @Prod.mk (zT 2) (zT 2) ((zk_99_zs1_99_f01_X9_sumsOf_3, (10, 46656, 13)), ((11, 720, 13), (0, 0, 0))) zO2
noncomputable def h0_X9_sumsOf_143 : zH 4 := (show zT 4 from ((zk_99_zs1_99_f01_X9_sumsOf_22, (((0, 456, bg_73), zk_99_zs1_99_f01_X9_sumsOf_15), zk_99_zs1_99_f01_X9_sumsOf_2)), zk_99_zs1_99_f01_X9_sumsOf_23), (11, (0, 0)))
noncomputable def h1_X9_sumsOf_143 : zH 4 := (show zT 4 from ((zk_99_zs1_99_f01_X9_sumsOf_22, (((0, 456, bg_73), zk_99_zs1_99_f01_X9_sumsOf_15), zk_99_zs1_99_f01_X9_sumsOf_2)), zk_99_zs1_99_f01_X9_sumsOf_23), (11, (0, 0)))
theorem ev_X9_sumsOf_143 : f_X9_sumsOfa [zR 1, zR 2] h0_X9_sumsOf_143 (zrk (zU) h1_X9_sumsOf_143) = true := by decide +kernel
noncomputable def g_X9_sumsOf_143 {d : Nat} : List zV → zH d → zP d → Bool := zsmyM [(0, 0), (0, 1), (1, 21), (1, 20), (1, 22), (1, 33), (1, 3), (1, 31), (1, 32), (1, 26), (1, 27)] [zR 1, zR 2] h0_X9_sumsOf_143 (zU) h1_X9_sumsOf_143
theorem mg_X9_sumsOf_143 {d : Nat} : zMet (d := d) X_X9_sumsOf yX9_sumsOf 17 g_X9_sumsOf_143 := zMet_smM m_X9_sumsOfa ev_X9_sumsOf_143
noncomputable def h0_X9_sumsOf_144 : zH 4 := (show zT 4 from ((zk_99_zs1_99_f01_X9_sumsOf_22, (((0, 456, bg_73), zk_99_zs1_99_f01_X9_sumsOf_17), zk_99_zs1_99_f01_X9_sumsOf_2)), zk_99_zs1_99_f01_X9_sumsOf_23), (11, (0, 0)))
noncomputable def h1_X9_sumsOf_144 : zH 4 := (show zT 4 from ((zk_99_zs1_99_f01_X9_sumsOf_22, (((0, 456, bg_73), zk_99_zs1_99_f01_X9_sumsOf_17), zk_99_zs1_99_f01_X9_sumsOf_2)), zk_99_zs1_99_f01_X9_sumsOf_23), (11, (0, 0)))
theorem ev_X9_sumsOf_144 : f_X9_sumsOfa [zR 1, zR 2] h0_X9_sumsOf_144 (zrk (zU) h1_X9_sumsOf_144) = true := by decide +kernel
noncomputable def g_X9_sumsOf_144 {d : Nat} : List zV → zH d → zP d → Bool := zsmyM [(0, 0), (0, 1), (1, 21), (1, 20), (1, 22), (1, 33), (1, 3), (1, 31), (1, 32), (1, 26), (1, 27)] [zR 1, zR 2] h0_X9_sumsOf_144 (zU) h1_X9_sumsOf_144
theorem mg_X9_sumsOf_144 {d : Nat} : zMet (d := d) X_X9_sumsOf yX9_sumsOf 17 g_X9_sumsOf_144 := zMet_smM m_X9_sumsOfa ev_X9_sumsOf_144
noncomputable def h0_X9_sumsOf_145 : zH 4 := (show zT 4 from ((zk_99_zs1_99_f01_X9_sumsOf_22, (((0, 456, bg_73), zk_99_zs1_99_f01_X9_sumsOf_18), zk_99_zs1_99_f01_X9_sumsOf_2)), zk_99_zs1_99_f01_X9_sumsOf_23), (11, (0, 0)))
noncomputable def h1_X9_sumsOf_145 : zH 4 := (show zT 4 from ((zk_99_zs1_99_f01_X9_sumsOf_22, (((0, 456, bg_73), zk_99_zs1_99_f01_X9_sumsOf_18), zk_99_zs1_99_f01_X9_sumsOf_2)), zk_99_zs1_99_f01_X9_sumsOf_23), (11, (0, 0)))
theorem ev_X9_sumsOf_145 : f_X9_sumsOfa [zR 1, zR 2] h0_X9_sumsOf_145 (zrk (zU) h1_X9_sumsOf_145) = true := by decide +kernel
noncomputable def g_X9_sumsOf_145 {d : Nat} : List zV → zH d → zP d → Bool := zsmyM [(0, 0), (0, 1), (1, 21), (1, 20), (1, 22), (1, 33), (1, 3), (1, 31), (1, 32), (1, 26), (1, 27)] [zR 1, zR 2] h0_X9_sumsOf_145 (zU) h1_X9_sumsOf_145
theorem mg_X9_sumsOf_145 {d : Nat} : zMet (d := d) X_X9_sumsOf yX9_sumsOf 17 g_X9_sumsOf_145 := zMet_smM m_X9_sumsOfa ev_X9_sumsOf_145
noncomputable def h0_X9_sumsOf_146 : zH 4 := (show zT 4 from ((zk_99_zs1_99_f01_X9_sumsOf_22, (((0, 456, bg_73), zk_99_zs1_99_f01_X9_sumsOf_19), zk_99_zs1_99_f01_X9_sumsOf_2)), zk_99_zs1_99_f01_X9_sumsOf_23), (11, (0, 0)))
noncomputable def h1_X9_sumsOf_146 : zH 4 := (show zT 4 from ((zk_99_zs1_99_f01_X9_sumsOf_22, (((0, 456, bg_73), zk_99_zs1_99_f01_X9_sumsOf_19), zk_99_zs1_99_f01_X9_sumsOf_2)), zk_99_zs1_99_f01_X9_sumsOf_23), (11, (0, 0)))
theorem ev_X9_sumsOf_146 : f_X9_sumsOfa [zR 1, zR 2] h0_X9_sumsOf_146 (zrk (zU) h1_X9_sumsOf_146) = true := by decide +kernel
noncomputable def g_X9_sumsOf_146 {d : Nat} : List zV → zH d → zP d → Bool := zsmyM [(0, 0), (0, 1), (1, 21), (1, 20), (1, 22), (1, 33), (1, 3), (1, 31), (1, 32), (1, 26), (1, 27)] [zR 1, zR 2] h0_X9_sumsOf_146 (zU) h1_X9_sumsOf_146
theorem mg_X9_sumsOf_146 {d : Nat} : zMet (d := d) X_X9_sumsOf yX9_sumsOf 17 g_X9_sumsOf_146 := zMet_smM m_X9_sumsOfa ev_X9_sumsOf_146
noncomputable def h0_X9_sumsOf_147 : zH 4 := (show zT 4 from ((zk_99_zs1_99_f01_X9_sumsOf_22, (((0, 456, bg_73), zk_99_zs1_99_f01_X9_sumsOf_20), zk_99_zs1_99_f01_X9_sumsOf_2)), zk_99_zs1_99_f01_X9_sumsOf_23), (11, (0, 0)))
noncomputable def h1_X9_sumsOf_147 : zH 4 := (show zT 4 from ((zk_99_zs1_99_f01_X9_sumsOf_22, (((0, 456, bg_73), zk_99_zs1_99_f01_X9_sumsOf_20), zk_99_zs1_99_f01_X9_sumsOf_2)), zk_99_zs1_99_f01_X9_sumsOf_23), (11, (0, 0)))
theorem ev_X9_sumsOf_147 : f_X9_sumsOfa [zR 1, zR 2] h0_X9_sumsOf_147 (zrk (zU) h1_X9_sumsOf_147) = true := by decide +kernel
noncomputable def g_X9_sumsOf_147 {d : Nat} : List zV → zH d → zP d → Bool := zsmyM [(0, 0), (0, 1), (1, 21), (1, 20), (1, 22), (1, 33), (1, 3), (1, 31), (1, 32), (1, 26), (1, 27)] [zR 1, zR 2] h0_X9_sumsOf_147 (zU) h1_X9_sumsOf_147
theorem mg_X9_sumsOf_147 {d : Nat} : zMet (d := d) X_X9_sumsOf yX9_sumsOf 17 g_X9_sumsOf_147 := zMet_smM m_X9_sumsOfa ev_X9_sumsOf_147
noncomputable def h0_X9_sumsOf_148 : zH 4 := (show zT 4 from ((zk_99_zs1_99_f01_X9_sumsOf_22, (((0, 456, bg_73), zk_99_zs1_99_f01_X9_sumsOf_21), zk_99_zs1_99_f01_X9_sumsOf_2)), zk_99_zs1_99_f01_X9_sumsOf_23), (11, (0, 0)))
noncomputable def h1_X9_sumsOf_148 : zH 4 := (show zT 4 from ((zk_99_zs1_99_f01_X9_sumsOf_22, (((0, 456, bg_73), zk_99_zs1_99_f01_X9_sumsOf_21), zk_99_zs1_99_f01_X9_sumsOf_2)), zk_99_zs1_99_f01_X9_sumsOf_23), (11, (0, 0)))
theorem ev_X9_sumsOf_148 : f_X9_sumsOfa [zR 1, zR 2] h0_X9_sumsOf_148 (zrk (zU) h1_X9_sumsOf_148) = true := by decide +kernel
noncomputable def g_X9_sumsOf_148 {d : Nat} : List zV → zH d → zP d → Bool := zsmyM [(0, 0), (0, 1), (1, 21), (1, 20), (1, 22), (1, 33), (1, 3), (1, 31), (1, 32), (1, 26), (1, 27)] [zR 1, zR 2] h0_X9_sumsOf_148 (zU) h1_X9_sumsOf_148
theorem mg_X9_sumsOf_148 {d : Nat} : zMet (d := d) X_X9_sumsOf yX9_sumsOf 17 g_X9_sumsOf_148 := zMet_smM m_X9_sumsOfa ev_X9_sumsOf_148
noncomputable def h0_X9_sumsOf_149 : zH 4 := (show zT 4 from ((zk_99_zs1_99_f01_X9_sumsOf_0, (((0, 456, bg_76), zk_99_zs1_99_f01_X9_sumsOf_15), zk_99_zs1_99_f01_X9_sumsOf_2)), zk_99_zs1_99_f01_X9_sumsOf_4), (11, (0, 0)))
noncomputable def h1_X9_sumsOf_149 : zH 4 := (show zT 4 from ((zk_99_zs1_99_f01_X9_sumsOf_0, (((0, 456, bg_76), zk_99_zs1_99_f01_X9_sumsOf_15), zk_99_zs1_99_f01_X9_sumsOf_2)), zk_99_zs1_99_f01_X9_sumsOf_4), (11, (0, 0)))
theorem ev_X9_sumsOf_149 : f_X9_sumsOfa [zR 1, zR 2] h0_X9_sumsOf_149 (zrk (zU) h1_X9_sumsOf_149) = true := by decide +kernel
noncomputable def g_X9_sumsOf_149 {d : Nat} : List zV → zH d → zP d → Bool := zsmyM [(0, 0), (0, 1), (1, 21), (1, 20), (1, 22), (1, 33), (1, 3), (1, 31), (1, 32), (1, 26), (1, 27)] [zR 1, zR 2] h0_X9_sumsOf_149 (zU) h1_X9_sumsOf_149
theorem mg_X9_sumsOf_149 {d : Nat} : zMet (d := d) X_X9_sumsOf yX9_sumsOf 17 g_X9_sumsOf_149 := zMet_smM m_X9_sumsOfa ev_X9_sumsOf_149
noncomputable def h0_X9_sumsOf_150 : zH 4 := (show zT 4 from ((zk_99_zs1_99_f01_X9_sumsOf_0, (((0, 456, bg_76), zk_99_zs1_99_f01_X9_sumsOf_17), zk_99_zs1_99_f01_X9_sumsOf_2)), zk_99_zs1_99_f01_X9_sumsOf_4), (11, (0, 0)))
noncomputable def h1_X9_sumsOf_150 : zH 4 := (show zT 4 from ((zk_99_zs1_99_f01_X9_sumsOf_0, (((0, 456, bg_76), zk_99_zs1_99_f01_X9_sumsOf_17), zk_99_zs1_99_f01_X9_sumsOf_2)), zk_99_zs1_99_f01_X9_sumsOf_4), (11, (0, 0)))
theorem ev_X9_sumsOf_150 : f_X9_sumsOfa [zR 1, zR 2] h0_X9_sumsOf_150 (zrk (zU) h1_X9_sumsOf_150) = true := by decide +kernel
noncomputable def g_X9_sumsOf_150 {d : Nat} : List zV → zH d → zP d → Bool := zsmyM [(0, 0), (0, 1), (1, 21), (1, 20), (1, 22), (1, 33), (1, 3), (1, 31), (1, 32), (1, 26), (1, 27)] [zR 1, zR 2] h0_X9_sumsOf_150 (zU) h1_X9_sumsOf_150
theorem mg_X9_sumsOf_150 {d : Nat} : zMet (d := d) X_X9_sumsOf yX9_sumsOf 17 g_X9_sumsOf_150 := zMet_smM m_X9_sumsOfa ev_X9_sumsOf_150
noncomputable def h0_X9_sumsOf_151 : zH 4 := (show zT 4 from ((zk_99_zs1_99_f01_X9_sumsOf_0, (((0, 456, bg_76), zk_99_zs1_99_f01_X9_sumsOf_18), zk_99_zs1_99_f01_X9_sumsOf_2)), zk_99_zs1_99_f01_X9_sumsOf_4), (11, (0, 0)))
noncomputable def h1_X9_sumsOf_151 : zH 4 := (show zT 4 from ((zk_99_zs1_99_f01_X9_sumsOf_0, (((0, 456, bg_76), zk_99_zs1_99_f01_X9_sumsOf_18), zk_99_zs1_99_f01_X9_sumsOf_2)), zk_99_zs1_99_f01_X9_sumsOf_4), (11, (0, 0)))
theorem ev_X9_sumsOf_151 : f_X9_sumsOfa [zR 1, zR 2] h0_X9_sumsOf_151 (zrk (zU) h1_X9_sumsOf_151) = true := by decide +kernel
noncomputable def g_X9_sumsOf_151 {d : Nat} : List zV → zH d → zP d → Bool := zsmyM [(0, 0), (0, 1), (1, 21), (1, 20), (1, 22), (1, 33), (1, 3), (1, 31), (1, 32), (1, 26), (1, 27)] [zR 1, zR 2] h0_X9_sumsOf_151 (zU) h1_X9_sumsOf_151
theorem mg_X9_sumsOf_151 {d : Nat} : zMet (d := d) X_X9_sumsOf yX9_sumsOf 17 g_X9_sumsOf_151 := zMet_smM m_X9_sumsOfa ev_X9_sumsOf_151
noncomputable def h0_X9_sumsOf_152 : zH 4 := (show zT 4 from ((zk_99_zs1_99_f01_X9_sumsOf_0, (((0, 456, bg_76), zk_99_zs1_99_f01_X9_sumsOf_19), zk_99_zs1_99_f01_X9_sumsOf_2)), zk_99_zs1_99_f01_X9_sumsOf_4), (11, (0, 0)))
noncomputable def h1_X9_sumsOf_152 : zH 4 := (show zT 4 from ((zk_99_zs1_99_f01_X9_sumsOf_0, (((0, 456, bg_76), zk_99_zs1_99_f01_X9_sumsOf_19), zk_99_zs1_99_f01_X9_sumsOf_2)), zk_99_zs1_99_f01_X9_sumsOf_4), (11, (0, 0)))
theorem ev_X9_sumsOf_152 : f_X9_sumsOfa [zR 1, zR 2] h0_X9_sumsOf_152 (zrk (zU) h1_X9_sumsOf_152) = true := by decide +kernel
noncomputable def g_X9_sumsOf_152 {d : Nat} : List zV → zH d → zP d → Bool := zsmyM [(0, 0), (0, 1), (1, 21), (1, 20), (1, 22), (1, 33), (1, 3), (1, 31), (1, 32), (1, 26), (1, 27)] [zR 1, zR 2] h0_X9_sumsOf_152 (zU) h1_X9_sumsOf_152
theorem mg_X9_sumsOf_152 {d : Nat} : zMet (d := d) X_X9_sumsOf yX9_sumsOf 17 g_X9_sumsOf_152 := zMet_smM m_X9_sumsOfa ev_X9_sumsOf_152
noncomputable def h0_X9_sumsOf_153 : zH 4 := (show zT 4 from ((zk_99_zs1_99_f01_X9_sumsOf_0, (((0, 456, bg_76), zk_99_zs1_99_f01_X9_sumsOf_20), zk_99_zs1_99_f01_X9_sumsOf_2)), zk_99_zs1_99_f01_X9_sumsOf_4), (11, (0, 0)))
noncomputable def h1_X9_sumsOf_153 : zH 4 := (show zT 4 from ((zk_99_zs1_99_f01_X9_sumsOf_0, (((0, 456, bg_76), zk_99_zs1_99_f01_X9_sumsOf_20), zk_99_zs1_99_f01_X9_sumsOf_2)), zk_99_zs1_99_f01_X9_sumsOf_4), (11, (0, 0)))
theorem ev_X9_sumsOf_153 : f_X9_sumsOfa [zR 1, zR 2] h0_X9_sumsOf_153 (zrk (zU) h1_X9_sumsOf_153) = true := by decide +kernel
noncomputable def g_X9_sumsOf_153 {d : Nat} : List zV → zH d → zP d → Bool := zsmyM [(0, 0), (0, 1), (1, 21), (1, 20), (1, 22), (1, 33), (1, 3), (1, 31), (1, 32), (1, 26), (1, 27)] [zR 1, zR 2] h0_X9_sumsOf_153 (zU) h1_X9_sumsOf_153
theorem mg_X9_sumsOf_153 {d : Nat} : zMet (d := d) X_X9_sumsOf yX9_sumsOf 17 g_X9_sumsOf_153 := zMet_smM m_X9_sumsOfa ev_X9_sumsOf_153
noncomputable def h0_X9_sumsOf_154 : zH 4 := (show zT 4 from ((zk_99_zs1_99_f01_X9_sumsOf_0, (((0, 456, bg_76), zk_99_zs1_99_f01_X9_sumsOf_21), zk_99_zs1_99_f01_X9_sumsOf_2)), zk_99_zs1_99_f01_X9_sumsOf_4), (11, (0, 0)))
noncomputable def h1_X9_sumsOf_154 : zH 4 := (show zT 4 from ((zk_99_zs1_99_f01_X9_sumsOf_0, (((0, 456, bg_76), zk_99_zs1_99_f01_X9_sumsOf_21), zk_99_zs1_99_f01_X9_sumsOf_2)), zk_99_zs1_99_f01_X9_sumsOf_4), (11, (0, 0)))
theorem ev_X9_sumsOf_154 : f_X9_sumsOfa [zR 1, zR 2] h0_X9_sumsOf_154 (zrk (zU) h1_X9_sumsOf_154) = true := by decide +kernel
noncomputable def g_X9_sumsOf_154 {d : Nat} : List zV → zH d → zP d → Bool := zsmyM [(0, 0), (0, 1), (1, 21), (1, 20), (1, 22), (1, 33), (1, 3), (1, 31), (1, 32), (1, 26), (1, 27)] [zR 1, zR 2] h0_X9_sumsOf_154 (zU) h1_X9_sumsOf_154
theorem mg_X9_sumsOf_154 {d : Nat} : zMet (d := d) X_X9_sumsOf yX9_sumsOf 17 g_X9_sumsOf_154 := zMet_smM m_X9_sumsOfa ev_X9_sumsOf_154
noncomputable def h0_X9_sumsOf_155 : zH 4 := (show zT 4 from ((zk_99_zs1_99_f01_X9_sumsOf_7, (((0, 456, bg_79), zk_99_zs1_99_f01_X9_sumsOf_1), zk_99_zs1_99_f01_X9_sumsOf_2)), zk_99_zs1_99_f01_X9_sumsOf_9), (11, (0, 0)))
noncomputable def h1_X9_sumsOf_155 : zH 4 := (show zT 4 from ((zk_99_zs1_99_f01_X9_sumsOf_7, (((0, 456, bg_79), zk_99_zs1_99_f01_X9_sumsOf_1), zk_99_zs1_99_f01_X9_sumsOf_2)), zk_99_zs1_99_f01_X9_sumsOf_9), (11, (0, 0)))
theorem ev_X9_sumsOf_155 : f_X9_sumsOfa [zR 1, zR 2] h0_X9_sumsOf_155 (zrk (zU) h1_X9_sumsOf_155) = true := by decide +kernel
noncomputable def g_X9_sumsOf_155 {d : Nat} : List zV → zH d → zP d → Bool := zsmyM [(0, 0), (0, 1), (1, 21), (1, 20), (1, 22), (1, 33), (1, 3), (1, 31), (1, 32), (1, 26), (1, 27)] [zR 1, zR 2] h0_X9_sumsOf_155 (zU) h1_X9_sumsOf_155
theorem mg_X9_sumsOf_155 {d : Nat} : zMet (d := d) X_X9_sumsOf yX9_sumsOf 17 g_X9_sumsOf_155 := zMet_smM m_X9_sumsOfa ev_X9_sumsOf_155
noncomputable def h0_X9_sumsOf_156 : zH 4 := (show zT 4 from ((zk_99_zs1_99_f01_X9_sumsOf_7, (((0, 456, bg_79), zk_99_zs1_99_f01_X9_sumsOf_15), zk_99_zs1_99_f01_X9_sumsOf_2)), zk_99_zs1_99_f01_X9_sumsOf_9), (11, (0, 0)))
noncomputable def h1_X9_sumsOf_156 : zH 4 := (show zT 4 from ((zk_99_zs1_99_f01_X9_sumsOf_7, (((0, 456, bg_79), zk_99_zs1_99_f01_X9_sumsOf_15), zk_99_zs1_99_f01_X9_sumsOf_2)), zk_99_zs1_99_f01_X9_sumsOf_9), (11, (0, 0)))
theorem ev_X9_sumsOf_156 : f_X9_sumsOfa [zR 1, zR 2] h0_X9_sumsOf_156 (zrk (zU) h1_X9_sumsOf_156) = true := by decide +kernel
noncomputable def g_X9_sumsOf_156 {d : Nat} : List zV → zH d → zP d → Bool := zsmyM [(0, 0), (0, 1), (1, 21), (1, 20), (1, 22), (1, 33), (1, 3), (1, 31), (1, 32), (1, 26), (1, 27)] [zR 1, zR 2] h0_X9_sumsOf_156 (zU) h1_X9_sumsOf_156
theorem mg_X9_sumsOf_156 {d : Nat} : zMet (d := d) X_X9_sumsOf yX9_sumsOf 17 g_X9_sumsOf_156 := zMet_smM m_X9_sumsOfa ev_X9_sumsOf_156
noncomputable def h0_X9_sumsOf_157 : zH 4 := (show zT 4 from ((zk_99_zs1_99_f01_X9_sumsOf_7, (((0, 456, bg_79), zk_99_zs1_99_f01_X9_sumsOf_17), zk_99_zs1_99_f01_X9_sumsOf_2)), zk_99_zs1_99_f01_X9_sumsOf_9), (11, (0, 0)))
noncomputable def h1_X9_sumsOf_157 : zH 4 := (show zT 4 from ((zk_99_zs1_99_f01_X9_sumsOf_7, (((0, 456, bg_79), zk_99_zs1_99_f01_X9_sumsOf_17), zk_99_zs1_99_f01_X9_sumsOf_2)), zk_99_zs1_99_f01_X9_sumsOf_9), (11, (0, 0)))
theorem ev_X9_sumsOf_157 : f_X9_sumsOfa [zR 1, zR 2] h0_X9_sumsOf_157 (zrk (zU) h1_X9_sumsOf_157) = true := by decide +kernel
noncomputable def g_X9_sumsOf_157 {d : Nat} : List zV → zH d → zP d → Bool := zsmyM [(0, 0), (0, 1), (1, 21), (1, 20), (1, 22), (1, 33), (1, 3), (1, 31), (1, 32), (1, 26), (1, 27)] [zR 1, zR 2] h0_X9_sumsOf_157 (zU) h1_X9_sumsOf_157
theorem mg_X9_sumsOf_157 {d : Nat} : zMet (d := d) X_X9_sumsOf yX9_sumsOf 17 g_X9_sumsOf_157 := zMet_smM m_X9_sumsOfa ev_X9_sumsOf_157
noncomputable def h0_X9_sumsOf_158 : zH 4 := (show zT 4 from ((zk_99_zs1_99_f01_X9_sumsOf_7, (((0, 456, bg_79), zk_99_zs1_99_f01_X9_sumsOf_18), zk_99_zs1_99_f01_X9_sumsOf_2)), zk_99_zs1_99_f01_X9_sumsOf_9), (11, (0, 0)))
noncomputable def h1_X9_sumsOf_158 : zH 4 := (show zT 4 from ((zk_99_zs1_99_f01_X9_sumsOf_7, (((0, 456, bg_79), zk_99_zs1_99_f01_X9_sumsOf_18), zk_99_zs1_99_f01_X9_sumsOf_2)), zk_99_zs1_99_f01_X9_sumsOf_9), (11, (0, 0)))
theorem ev_X9_sumsOf_158 : f_X9_sumsOfa [zR 1, zR 2] h0_X9_sumsOf_158 (zrk (zU) h1_X9_sumsOf_158) = true := by decide +kernel
noncomputable def g_X9_sumsOf_158 {d : Nat} : List zV → zH d → zP d → Bool := zsmyM [(0, 0), (0, 1), (1, 21), (1, 20), (1, 22), (1, 33), (1, 3), (1, 31), (1, 32), (1, 26), (1, 27)] [zR 1, zR 2] h0_X9_sumsOf_158 (zU) h1_X9_sumsOf_158
theorem mg_X9_sumsOf_158 {d : Nat} : zMet (d := d) X_X9_sumsOf yX9_sumsOf 17 g_X9_sumsOf_158 := zMet_smM m_X9_sumsOfa ev_X9_sumsOf_158
noncomputable def h0_X9_sumsOf_159 : zH 4 := (show zT 4 from ((zk_99_zs1_99_f01_X9_sumsOf_7, (((0, 456, bg_79), zk_99_zs1_99_f01_X9_sumsOf_19), zk_99_zs1_99_f01_X9_sumsOf_2)), zk_99_zs1_99_f01_X9_sumsOf_9), (11, (0, 0)))
noncomputable def h1_X9_sumsOf_159 : zH 4 := (show zT 4 from ((zk_99_zs1_99_f01_X9_sumsOf_7, (((0, 456, bg_79), zk_99_zs1_99_f01_X9_sumsOf_19), zk_99_zs1_99_f01_X9_sumsOf_2)), zk_99_zs1_99_f01_X9_sumsOf_9), (11, (0, 0)))
theorem ev_X9_sumsOf_159 : f_X9_sumsOfa [zR 1, zR 2] h0_X9_sumsOf_159 (zrk (zU) h1_X9_sumsOf_159) = true := by decide +kernel
noncomputable def g_X9_sumsOf_159 {d : Nat} : List zV → zH d → zP d → Bool := zsmyM [(0, 0), (0, 1), (1, 21), (1, 20), (1, 22), (1, 33), (1, 3), (1, 31), (1, 32), (1, 26), (1, 27)] [zR 1, zR 2] h0_X9_sumsOf_159 (zU) h1_X9_sumsOf_159
theorem mg_X9_sumsOf_159 {d : Nat} : zMet (d := d) X_X9_sumsOf yX9_sumsOf 17 g_X9_sumsOf_159 := zMet_smM m_X9_sumsOfa ev_X9_sumsOf_159
noncomputable def h0_X9_sumsOf_160 : zH 4 := (show zT 4 from ((zk_99_zs1_99_f01_X9_sumsOf_7, (((0, 456, bg_79), zk_99_zs1_99_f01_X9_sumsOf_20), zk_99_zs1_99_f01_X9_sumsOf_2)), zk_99_zs1_99_f01_X9_sumsOf_9), (11, (0, 0)))
noncomputable def h1_X9_sumsOf_160 : zH 4 := (show zT 4 from ((zk_99_zs1_99_f01_X9_sumsOf_7, (((0, 456, bg_79), zk_99_zs1_99_f01_X9_sumsOf_20), zk_99_zs1_99_f01_X9_sumsOf_2)), zk_99_zs1_99_f01_X9_sumsOf_9), (11, (0, 0)))
theorem ev_X9_sumsOf_160 : f_X9_sumsOfa [zR 1, zR 2] h0_X9_sumsOf_160 (zrk (zU) h1_X9_sumsOf_160) = true := by decide +kernel
noncomputable def g_X9_sumsOf_160 {d : Nat} : List zV → zH d → zP d → Bool := zsmyM [(0, 0), (0, 1), (1, 21), (1, 20), (1, 22), (1, 33), (1, 3), (1, 31), (1, 32), (1, 26), (1, 27)] [zR 1, zR 2] h0_X9_sumsOf_160 (zU) h1_X9_sumsOf_160
theorem mg_X9_sumsOf_160 {d : Nat} : zMet (d := d) X_X9_sumsOf yX9_sumsOf 17 g_X9_sumsOf_160 := zMet_smM m_X9_sumsOfa ev_X9_sumsOf_160
noncomputable def h0_X9_sumsOf_161 : zH 4 := (show zT 4 from ((zk_99_zs1_99_f01_X9_sumsOf_7, (((0, 456, bg_79), zk_99_zs1_99_f01_X9_sumsOf_21), zk_99_zs1_99_f01_X9_sumsOf_2)), zk_99_zs1_99_f01_X9_sumsOf_9), (11, (0, 0)))
noncomputable def h1_X9_sumsOf_161 : zH 4 := (show zT 4 from ((zk_99_zs1_99_f01_X9_sumsOf_7, (((0, 456, bg_79), zk_99_zs1_99_f01_X9_sumsOf_21), zk_99_zs1_99_f01_X9_sumsOf_2)), zk_99_zs1_99_f01_X9_sumsOf_9), (11, (0, 0)))
theorem ev_X9_sumsOf_161 : f_X9_sumsOfa [zR 1, zR 2] h0_X9_sumsOf_161 (zrk (zU) h1_X9_sumsOf_161) = true := by decide +kernel
noncomputable def g_X9_sumsOf_161 {d : Nat} : List zV → zH d → zP d → Bool := zsmyM [(0, 0), (0, 1), (1, 21), (1, 20), (1, 22), (1, 33), (1, 3), (1, 31), (1, 32), (1, 26), (1, 27)] [zR 1, zR 2] h0_X9_sumsOf_161 (zU) h1_X9_sumsOf_161
theorem mg_X9_sumsOf_161 {d : Nat} : zMet (d := d) X_X9_sumsOf yX9_sumsOf 17 g_X9_sumsOf_161 := zMet_smM m_X9_sumsOfa ev_X9_sumsOf_161
noncomputable def h0_X9_sumsOf_162 : zH 4 := (show zT 4 from ((zk_99_zs1_99_f01_X9_sumsOf_10, (((0, 456, bg_82), zk_99_zs1_99_f01_X9_sumsOf_1), zk_99_zs1_99_f01_X9_sumsOf_2)), zk_99_zs1_99_f01_X9_sumsOf_11), (11, (0, 0)))
noncomputable def h1_X9_sumsOf_162 : zH 4 := (show zT 4 from ((zk_99_zs1_99_f01_X9_sumsOf_10, (((0, 456, bg_82), zk_99_zs1_99_f01_X9_sumsOf_1), zk_99_zs1_99_f01_X9_sumsOf_2)), zk_99_zs1_99_f01_X9_sumsOf_11), (11, (0, 0)))
theorem ev_X9_sumsOf_162 : f_X9_sumsOfa [zR 1, zR 2] h0_X9_sumsOf_162 (zrk (zU) h1_X9_sumsOf_162) = true := by decide +kernel
noncomputable def g_X9_sumsOf_162 {d : Nat} : List zV → zH d → zP d → Bool := zsmyM [(0, 0), (0, 1), (1, 21), (1, 20), (1, 22), (1, 33), (1, 3), (1, 31), (1, 32), (1, 26), (1, 27)] [zR 1, zR 2] h0_X9_sumsOf_162 (zU) h1_X9_sumsOf_162
theorem mg_X9_sumsOf_162 {d : Nat} : zMet (d := d) X_X9_sumsOf yX9_sumsOf 17 g_X9_sumsOf_162 := zMet_smM m_X9_sumsOfa ev_X9_sumsOf_162
noncomputable def h0_X9_sumsOf_163 : zH 4 := (show zT 4 from ((zk_99_zs1_99_f01_X9_sumsOf_10, (((0, 456, bg_82), zk_99_zs1_99_f01_X9_sumsOf_15), zk_99_zs1_99_f01_X9_sumsOf_2)), zk_99_zs1_99_f01_X9_sumsOf_11), (11, (0, 0)))
noncomputable def h1_X9_sumsOf_163 : zH 4 := (show zT 4 from ((zk_99_zs1_99_f01_X9_sumsOf_10, (((0, 456, bg_82), zk_99_zs1_99_f01_X9_sumsOf_15), zk_99_zs1_99_f01_X9_sumsOf_2)), zk_99_zs1_99_f01_X9_sumsOf_11), (11, (0, 0)))
theorem ev_X9_sumsOf_163 : f_X9_sumsOfa [zR 1, zR 2] h0_X9_sumsOf_163 (zrk (zU) h1_X9_sumsOf_163) = true := by decide +kernel
noncomputable def g_X9_sumsOf_163 {d : Nat} : List zV → zH d → zP d → Bool := zsmyM [(0, 0), (0, 1), (1, 21), (1, 20), (1, 22), (1, 33), (1, 3), (1, 31), (1, 32), (1, 26), (1, 27)] [zR 1, zR 2] h0_X9_sumsOf_163 (zU) h1_X9_sumsOf_163
theorem mg_X9_sumsOf_163 {d : Nat} : zMet (d := d) X_X9_sumsOf yX9_sumsOf 17 g_X9_sumsOf_163 := zMet_smM m_X9_sumsOfa ev_X9_sumsOf_163
noncomputable def h0_X9_sumsOf_164 : zH 4 := (show zT 4 from ((zk_99_zs1_99_f01_X9_sumsOf_10, (((0, 456, bg_82), zk_99_zs1_99_f01_X9_sumsOf_17), zk_99_zs1_99_f01_X9_sumsOf_2)), zk_99_zs1_99_f01_X9_sumsOf_11), (11, (0, 0)))
noncomputable def h1_X9_sumsOf_164 : zH 4 := (show zT 4 from ((zk_99_zs1_99_f01_X9_sumsOf_10, (((0, 456, bg_82), zk_99_zs1_99_f01_X9_sumsOf_17), zk_99_zs1_99_f01_X9_sumsOf_2)), zk_99_zs1_99_f01_X9_sumsOf_11), (11, (0, 0)))
theorem ev_X9_sumsOf_164 : f_X9_sumsOfa [zR 1, zR 2] h0_X9_sumsOf_164 (zrk (zU) h1_X9_sumsOf_164) = true := by decide +kernel
noncomputable def g_X9_sumsOf_164 {d : Nat} : List zV → zH d → zP d → Bool := zsmyM [(0, 0), (0, 1), (1, 21), (1, 20), (1, 22), (1, 33), (1, 3), (1, 31), (1, 32), (1, 26), (1, 27)] [zR 1, zR 2] h0_X9_sumsOf_164 (zU) h1_X9_sumsOf_164
theorem mg_X9_sumsOf_164 {d : Nat} : zMet (d := d) X_X9_sumsOf yX9_sumsOf 17 g_X9_sumsOf_164 := zMet_smM m_X9_sumsOfa ev_X9_sumsOf_164
noncomputable def h0_X9_sumsOf_165 : zH 4 := (show zT 4 from ((zk_99_zs1_99_f01_X9_sumsOf_10, (((0, 456, bg_82), zk_99_zs1_99_f01_X9_sumsOf_18), zk_99_zs1_99_f01_X9_sumsOf_2)), zk_99_zs1_99_f01_X9_sumsOf_11), (11, (0, 0)))
noncomputable def h1_X9_sumsOf_165 : zH 4 := (show zT 4 from ((zk_99_zs1_99_f01_X9_sumsOf_10, (((0, 456, bg_82), zk_99_zs1_99_f01_X9_sumsOf_18), zk_99_zs1_99_f01_X9_sumsOf_2)), zk_99_zs1_99_f01_X9_sumsOf_11), (11, (0, 0)))
theorem ev_X9_sumsOf_165 : f_X9_sumsOfa [zR 1, zR 2] h0_X9_sumsOf_165 (zrk (zU) h1_X9_sumsOf_165) = true := by decide +kernel
noncomputable def g_X9_sumsOf_165 {d : Nat} : List zV → zH d → zP d → Bool := zsmyM [(0, 0), (0, 1), (1, 21), (1, 20), (1, 22), (1, 33), (1, 3), (1, 31), (1, 32), (1, 26), (1, 27)] [zR 1, zR 2] h0_X9_sumsOf_165 (zU) h1_X9_sumsOf_165
theorem mg_X9_sumsOf_165 {d : Nat} : zMet (d := d) X_X9_sumsOf yX9_sumsOf 17 g_X9_sumsOf_165 := zMet_smM m_X9_sumsOfa ev_X9_sumsOf_165
