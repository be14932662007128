section
/-! the reference by summaries, by program -/
noncomputable def zk_99_zs1_99_f02_X9_sumsOf_0 : zT 2 := @Prod.mk (zT 1) (zT 1) ((25, 63, bg_180), (0, 12000, zun 40 12000 4294967296)) ((0, 11, bg_181), (0, 11, bg_182))
noncomputable def zk_99_zs1_99_f02_X9_sumsOf_1 : zC := (0, 7, 0x5000000000600000000030000000004000000000100000000020100000000)
noncomputable def zk_99_zs1_99_f02_X9_sumsOf_2 : zT 1 := @Prod.mk (zT 0) (zT 0) (0, 66, bg_6) (0, 6, 0x10000000001000000000100000000010000000001000000000100000000)
noncomputable def zk_99_zs1_99_f02_X9_sumsOf_3 : zC := (0, 7, 0x100000000010000000001000000000100000000010000000001000000000100000000)
noncomputable def zk_99_zs1_99_f02_X9_sumsOf_4 : zT 3 := @Prod.mk (zT 2) (zT 2) ((zk_99_zs1_99_f02_X9_sumsOf_3, (10, 46656, 27)), ((11, 720, 27), (0, 0, 0))) zO2
noncomputable def h0_X9_sumsOf_166 : zH 4 := (show zT 4 from ((zk_99_zs1_99_f02_X9_sumsOf_0, (((0, 456, bg_82), zk_99_zs1_99_f02_X9_sumsOf_1), zk_99_zs1_99_f02_X9_sumsOf_2)), zk_99_zs1_99_f02_X9_sumsOf_4), (11, (0, 0)))
noncomputable def h1_X9_sumsOf_166 : zH 4 := (show zT 4 from ((zk_99_zs1_99_f02_X9_sumsOf_0, (((0, 456, bg_82), zk_99_zs1_99_f02_X9_sumsOf_1), zk_99_zs1_99_f02_X9_sumsOf_2)), zk_99_zs1_99_f02_X9_sumsOf_4), (11, (0, 0)))
theorem ev_X9_sumsOf_166 : f_X9_sumsOfa [zR 1, zR 2] h0_X9_sumsOf_166 (zrk (zU) h1_X9_sumsOf_166) = true := by decide +kernel
noncomputable def g_X9_sumsOf_166 {d : Nat} : List zV → zH d → zP d → Bool := zsmyM [(0, 0), (0, 1), (1, 21), (1, 20), (1, 22), (1, 33), (1, 3), (1, 31), (1, 32), (1, 26), (1, 27)] [zR 1, zR 2] h0_X9_sumsOf_166 (zU) h1_X9_sumsOf_166
theorem mg_X9_sumsOf_166 {d : Nat} : zMet (d := d) X_X9_sumsOf yX9_sumsOf 17 g_X9_sumsOf_166 := zMet_smM m_X9_sumsOfa ev_X9_sumsOf_166
noncomputable def zk_99_zs1_99_f02_X9_sumsOf_5 : zC := (0, 7, 0x6000000000500000000030000000004000000000100000000020100000000)
noncomputable def h0_X9_sumsOf_167 : zH 4 := (show zT 4 from ((zk_99_zs1_99_f02_X9_sumsOf_0, (((0, 456, bg_82), zk_99_zs1_99_f02_X9_sumsOf_5), zk_99_zs1_99_f02_X9_sumsOf_2)), zk_99_zs1_99_f02_X9_sumsOf_4), (11, (0, 0)))
noncomputable def h1_X9_sumsOf_167 : zH 4 := (show zT 4 from ((zk_99_zs1_99_f02_X9_sumsOf_0, (((0, 456, bg_82), zk_99_zs1_99_f02_X9_sumsOf_5), zk_99_zs1_99_f02_X9_sumsOf_2)), zk_99_zs1_99_f02_X9_sumsOf_4), (11, (0, 0)))
theorem ev_X9_sumsOf_167 : f_X9_sumsOfa [zR 1, zR 2] h0_X9_sumsOf_167 (zrk (zU) h1_X9_sumsOf_167) = true := by decide +kernel
noncomputable def g_X9_sumsOf_167 {d : Nat} : List zV → zH d → zP d → Bool := zsmyM [(0, 0), (0, 1), (1, 21), (1, 20), (1, 22), (1, 33), (1, 3), (1, 31), (1, 32), (1, 26), (1, 27)] [zR 1, zR 2] h0_X9_sumsOf_167 (zU) h1_X9_sumsOf_167
theorem mg_X9_sumsOf_167 {d : Nat} : zMet (d := d) X_X9_sumsOf yX9_sumsOf 17 g_X9_sumsOf_167 := zMet_smM m_X9_sumsOfa ev_X9_sumsOf_167
noncomputable def zk_99_zs1_99_f02_X9_sumsOf_6 : zC := (0, 7, 0x6000000000500000000040000000003000000000100000000020100000000)
noncomputable def h0_X9_sumsOf_168 : zH 4 := (show zT 4 from ((zk_99_zs1_99_f02_X9_sumsOf_0, (((0, 456, bg_82), zk_99_zs1_99_f02_X9_sumsOf_6), zk_99_zs1_99_f02_X9_sumsOf_2)), zk_99_zs1_99_f02_X9_sumsOf_4), (11, (0, 0)))
noncomputable def h1_X9_sumsOf_168 : zH 4 := (show zT 4 from ((zk_99_zs1_99_f02_X9_sumsOf_0, (((0, 456, bg_82), zk_99_zs1_99_f02_X9_sumsOf_6), zk_99_zs1_99_f02_X9_sumsOf_2)), zk_99_zs1_99_f02_X9_sumsOf_4), (11, (0, 0)))
theorem ev_X9_sumsOf_168 : f_X9_sumsOfa [zR 1, zR 2] h0_X9_sumsOf_168 (zrk (zU) h1_X9_sumsOf_168) = true := by decide +kernel
noncomputable def g_X9_sumsOf_168 {d : Nat} : List zV → zH d → zP d → Bool := zsmyM [(0, 0), (0, 1), (1, 21), (1, 20), (1, 22), (1, 33), (1, 3), (1, 31), (1, 32), (1, 26), (1, 27)] [zR 1, zR 2] h0_X9_sumsOf_168 (zU) h1_X9_sumsOf_168
theorem mg_X9_sumsOf_168 {d : Nat} : zMet (d := d) X_X9_sumsOf yX9_sumsOf 17 g_X9_sumsOf_168 := zMet_smM m_X9_sumsOfa ev_X9_sumsOf_168
noncomputable def zk_99_zs1_99_f02_X9_sumsOf_7 : zT 2 := @Prod.mk (zT 1) (zT 1) ((25, 63, bg_183), (0, 12000, zun 40 12000 4294967296)) ((0, 11, bg_184), (0, 11, bg_185))
noncomputable def zk_99_zs1_99_f02_X9_sumsOf_8 : zC := (0, 7, 0x5000000000600000000010000000004000000000300000000020100000000)
noncomputable def zk_99_zs1_99_f02_X9_sumsOf_9 : zT 3 := @Prod.mk (zT 2) (zT 2) ((zk_99_zs1_99_f02_X9_sumsOf_3, (10, 46656, 83)), ((11, 720, 83), (0, 0, 0))) zO2
noncomputable def h0_X9_sumsOf_169 : zH 4 := (show zT 4 from ((zk_99_zs1_99_f02_X9_sumsOf_7, (((0, 456, bg_85), zk_99_zs1_99_f02_X9_sumsOf_8), zk_99_zs1_99_f02_X9_sumsOf_2)), zk_99_zs1_99_f02_X9_sumsOf_9), (11, (0, 0)))
noncomputable def h1_X9_sumsOf_169 : zH 4 := (show zT 4 from ((zk_99_zs1_99_f02_X9_sumsOf_7, (((0, 456, bg_85), zk_99_zs1_99_f02_X9_sumsOf_8), zk_99_zs1_99_f02_X9_sumsOf_2)), zk_99_zs1_99_f02_X9_sumsOf_9), (11, (0, 0)))
theorem ev_X9_sumsOf_169 : f_X9_sumsOfa [zR 1, zR 2] h0_X9_sumsOf_169 (zrk (zU) h1_X9_sumsOf_169) = true := by decide +kernel
noncomputable def g_X9_sumsOf_169 {d : Nat} : List zV → zH d → zP d → Bool := zsmyM [(0, 0), (0, 1), (1, 21), (1, 20), (1, 22), (1, 33), (1, 3), (1, 31), (1, 32), (1, 26), (1, 27)] [zR 1, zR 2] h0_X9_sumsOf_169 (zU) h1_X9_sumsOf_169
theorem mg_X9_sumsOf_169 {d : Nat} : zMet (d := d) X_X9_sumsOf yX9_sumsOf 17 g_X9_sumsOf_169 := zMet_smM m_X9_sumsOfa ev_X9_sumsOf_169
noncomputable def zk_99_zs1_99_f02_X9_sumsOf_10 : zC := (0, 7, 0x6000000000500000000020000000001000000000400000000030100000000)
noncomputable def h0_X9_sumsOf_170 : zH 4 := (show zT 4 from ((zk_99_zs1_99_f02_X9_sumsOf_7, (((0, 456, bg_85), zk_99_zs1_99_f02_X9_sumsOf_10), zk_99_zs1_99_f02_X9_sumsOf_2)), zk_99_zs1_99_f02_X9_sumsOf_9), (11, (0, 0)))
noncomputable def h1_X9_sumsOf_170 : zH 4 := (show zT 4 from ((zk_99_zs1_99_f02_X9_sumsOf_7, (((0, 456, bg_85), zk_99_zs1_99_f02_X9_sumsOf_10), zk_99_zs1_99_f02_X9_sumsOf_2)), zk_99_zs1_99_f02_X9_sumsOf_9), (11, (0, 0)))
theorem ev_X9_sumsOf_170 : f_X9_sumsOfa [zR 1, zR 2] h0_X9_sumsOf_170 (zrk (zU) h1_X9_sumsOf_170) = true := by decide +kernel
noncomputable def g_X9_sumsOf_170 {d : Nat} : List zV → zH d → zP d → Bool := zsmyM [(0, 0), (0, 1), (1, 21), (1, 20), (1, 22), (1, 33), (1, 3), (1, 31), (1, 32), (1, 26), (1, 27)] [zR 1, zR 2] h0_X9_sumsOf_170 (zU) h1_X9_sumsOf_170
theorem mg_X9_sumsOf_170 {d : Nat} : zMet (d := d) X_X9_sumsOf yX9_sumsOf 17 g_X9_sumsOf_170 := zMet_smM m_X9_sumsOfa ev_X9_sumsOf_170
noncomputable def zk_99_zs1_99_f02_X9_sumsOf_11 : zC := (0, 7, 0x6000000000500000000010000000004000000000300000000020100000000)
noncomputable def h0_X9_sumsOf_171 : zH 4 := (show zT 4 from ((zk_99_zs1_99_f02_X9_sumsOf_7, (((0, 456, bg_85), zk_99_zs1_99_f02_X9_sumsOf_11), zk_99_zs1_99_f02_X9_sumsOf_2)), zk_99_zs1_99_f02_X9_sumsOf_9), (11, (0, 0)))
noncomputable def h1_X9_sumsOf_171 : zH 4 := (show zT 4 from ((zk_99_zs1_99_f02_X9_sumsOf_7, (((0, 456, bg_85), zk_99_zs1_99_f02_X9_sumsOf_11), zk_99_zs1_99_f02_X9_sumsOf_2)), zk_99_zs1_99_f02_X9_sumsOf_9), (11, (0, 0)))
theorem ev_X9_sumsOf_171 : f_X9_sumsOfa [zR 1, zR 2] h0_X9_sumsOf_171 (zrk (zU) h1_X9_sumsOf_171) = true := by decide +kernel
noncomputable def g_X9_sumsOf_171 {d : Nat} : List zV → zH d → zP d → Bool := zsmyM [(0, 0), (0, 1), (1, 21), (1, 20), (1, 22), (1, 33), (1, 3), (1, 31), (1, 32), (1, 26), (1, 27)] [zR 1, zR 2] h0_X9_sumsOf_171 (zU) h1_X9_sumsOf_171
theorem mg_X9_sumsOf_171 {d : Nat} : zMet (d := d) X_X9_sumsOf yX9_sumsOf 17 g_X9_sumsOf_171 := zMet_smM m_X9_sumsOfa ev_X9_sumsOf_171
noncomputable def h0_X9_sumsOf_172 : zH 4 := (show zT 4 from ((zk_99_zs1_99_f02_X9_sumsOf_7, (((0, 456, bg_85), zk_99_zs1_99_f02_X9_sumsOf_1), zk_99_zs1_99_f02_X9_sumsOf_2)), zk_99_zs1_99_f02_X9_sumsOf_9), (11, (0, 0)))
noncomputable def h1_X9_sumsOf_172 : zH 4 := (show zT 4 from ((zk_99_zs1_99_f02_X9_sumsOf_7, (((0, 456, bg_85), zk_99_zs1_99_f02_X9_sumsOf_1), zk_99_zs1_99_f02_X9_sumsOf_2)), zk_99_zs1_99_f02_X9_sumsOf_9), (11, (0, 0)))
theorem ev_X9_sumsOf_172 : f_X9_sumsOfa [zR 1, zR 2] h0_X9_sumsOf_172 (zrk (zU) h1_X9_sumsOf_172) = true := by decide +kernel
noncomputable def g_X9_sumsOf_172 {d : Nat} : List zV → zH d → zP d → Bool := zsmyM [(0, 0), (0, 1), (1, 21), (1, 20), (1, 22), (1, 33), (1, 3), (1, 31), (1, 32), (1, 26), (1, 27)] [zR 1, zR 2] h0_X9_sumsOf_172 (zU) h1_X9_sumsOf_172
theorem mg_X9_sumsOf_172 {d : Nat} : zMet (d := d) X_X9_sumsOf yX9_sumsOf 17 g_X9_sumsOf_172 := zMet_smM m_X9_sumsOfa ev_X9_sumsOf_172
noncomputable def h0_X9_sumsOf_173 : zH 4 := (show zT 4 from ((zk_99_zs1_99_f02_X9_sumsOf_7, (((0, 456, bg_85), zk_99_zs1_99_f02_X9_sumsOf_5), zk_99_zs1_99_f02_X9_sumsOf_2)), zk_99_zs1_99_f02_X9_sumsOf_9), (11, (0, 0)))
noncomputable def h1_X9_sumsOf_173 : zH 4 := (show zT 4 from ((zk_99_zs1_99_f02_X9_sumsOf_7, (((0, 456, bg_85), zk_99_zs1_99_f02_X9_sumsOf_5), zk_99_zs1_99_f02_X9_sumsOf_2)), zk_99_zs1_99_f02_X9_sumsOf_9), (11, (0, 0)))
theorem ev_X9_sumsOf_173 : f_X9_sumsOfa [zR 1, zR 2] h0_X9_sumsOf_173 (zrk (zU) h1_X9_sumsOf_173) = true := by decide +kernel
noncomputable def g_X9_sumsOf_173 {d : Nat} : List zV → zH d → zP d → Bool := zsmyM [(0, 0), (0, 1), (1, 21), (1, 20), (1, 22), (1, 33), (1, 3), (1, 31), (1, 32), (1, 26), (1, 27)] [zR 1, zR 2] h0_X9_sumsOf_173 (zU) h1_X9_sumsOf_173
theorem mg_X9_sumsOf_173 {d : Nat} : zMet (d := d) X_X9_sumsOf yX9_sumsOf 17 g_X9_sumsOf_173 := zMet_smM m_X9_sumsOfa ev_X9_sumsOf_173
noncomputable def h0_X9_sumsOf_174 : zH 4 := (show zT 4 from ((zk_99_zs1_99_f02_X9_sumsOf_7, (((0, 456, bg_85), zk_99_zs1_99_f02_X9_sumsOf_6), zk_99_zs1_99_f02_X9_sumsOf_2)), zk_99_zs1_99_f02_X9_sumsOf_9), (11, (0, 0)))
noncomputable def h1_X9_sumsOf_174 : zH 4 := (show zT 4 from ((zk_99_zs1_99_f02_X9_sumsOf_7, (((0, 456, bg_85), zk_99_zs1_99_f02_X9_sumsOf_6), zk_99_zs1_99_f02_X9_sumsOf_2)), zk_99_zs1_99_f02_X9_sumsOf_9), (11, (0, 0)))
theorem ev_X9_sumsOf_174 : f_X9_sumsOfa [zR 1, zR 2] h0_X9_sumsOf_174 (zrk (zU) h1_X9_sumsOf_174) = true := by decide +kernel
noncomputable def g_X9_sumsOf_174 {d : Nat} : List zV → zH d → zP d → Bool := zsmyM [(0, 0), (0, 1), (1, 21), (1, 20), (1, 22), (1, 33), (1, 3), (1, 31), (1, 32), (1, 26), (1, 27)] [zR 1, zR 2] h0_X9_sumsOf_174 (zU) h1_X9_sumsOf_174
theorem mg_X9_sumsOf_174 {d : Nat} : zMet (d := d) X_X9_sumsOf yX9_sumsOf 17 g_X9_sumsOf_174 := zMet_smM m_X9_sumsOfa ev_X9_sumsOf_174
noncomputable def zk_99_zs1_99_f02_X9_sumsOf_12 : zT 2 := @Prod.mk (zT 1) (zT 1) ((25, 63, bg_192), (0, 12000, zun 40 12000 4294967296)) ((0, 11, bg_193), (0, 11, bg_194))
noncomputable def zk_99_zs1_99_f02_X9_sumsOf_13 : zT 3 := @Prod.mk (zT 2) (zT 2) ((zk_99_zs1_99_f02_X9_sumsOf_3, (10, 46656, 594)), ((11, 720, 594), (0, 0, 0))) zO2
noncomputable def h0_X9_sumsOf_175 : zH 4 := (show zT 4 from ((zk_99_zs1_99_f02_X9_sumsOf_12, (((0, 456, bg_94), (0, 7, 0x6000000000100000000050000000004000000000300000000020100000000)), zk_99_zs1_99_f02_X9_sumsOf_2)), zk_99_zs1_99_f02_X9_sumsOf_13), (11, (0, 0)))
noncomputable def h1_X9_sumsOf_175 : zH 4 := (show zT 4 from ((zk_99_zs1_99_f02_X9_sumsOf_12, (((0, 456, bg_94), (0, 7, 0x6000000000100000000050000000004000000000300000000020100000000)), zk_99_zs1_99_f02_X9_sumsOf_2)), zk_99_zs1_99_f02_X9_sumsOf_13), (11, (0, 0)))
theorem ev_X9_sumsOf_175 : f_X9_sumsOfa [zR 1, zR 2] h0_X9_sumsOf_175 (zrk (zU) h1_X9_sumsOf_175) = true := by decide +kernel
noncomputable def g_X9_sumsOf_175 {d : Nat} : List zV → zH d → zP d → Bool := zsmyM [(0, 0), (0, 1), (1, 21), (1, 20), (1, 22), (1, 33), (1, 3), (1, 31), (1, 32), (1, 26), (1, 27)] [zR 1, zR 2] h0_X9_sumsOf_175 (zU) h1_X9_sumsOf_175
theorem mg_X9_sumsOf_175 {d : Nat} : zMet (d := d) X_X9_sumsOf yX9_sumsOf 17 g_X9_sumsOf_175 := zMet_smM m_X9_sumsOfa ev_X9_sumsOf_175
noncomputable def h0_X9_sumsOf_176 : zH 4 := (show zT 4 from ((zk_99_zs1_99_f02_X9_sumsOf_12, (((0, 456, bg_94), zk_99_zs1_99_f02_X9_sumsOf_8), zk_99_zs1_99_f02_X9_sumsOf_2)), zk_99_zs1_99_f02_X9_sumsOf_13), (11, (0, 0)))
noncomputable def h1_X9_sumsOf_176 : zH 4 := (show zT 4 from ((zk_99_zs1_99_f02_X9_sumsOf_12, (((0, 456, bg_94), zk_99_zs1_99_f02_X9_sumsOf_8), zk_99_zs1_99_f02_X9_sumsOf_2)), zk_99_zs1_99_f02_X9_sumsOf_13), (11, (0, 0)))
theorem ev_X9_sumsOf_176 : f_X9_sumsOfa [zR 1, zR 2] h0_X9_sumsOf_176 (zrk (zU) h1_X9_sumsOf_176) = true := by decide +kernel
noncomputable def g_X9_sumsOf_176 {d : Nat} : List zV → zH d → zP d → Bool := zsmyM [(0, 0), (0, 1), (1, 21), (1, 20), (1, 22), (1, 33), (1, 3), (1, 31), (1, 32), (1, 26), (1, 27)] [zR 1, zR 2] h0_X9_sumsOf_176 (zU) h1_X9_sumsOf_176
theorem mg_X9_sumsOf_176 {d : Nat} : zMet (d := d) X_X9_sumsOf yX9_sumsOf 17 g_X9_sumsOf_176 := zMet_smM m_X9_sumsOfa ev_X9_sumsOf_176
noncomputable def h0_X9_sumsOf_177 : zH 4 := (show zT 4 from ((zk_99_zs1_99_f02_X9_sumsOf_12, (((0, 456, bg_94), zk_99_zs1_99_f02_X9_sumsOf_10), zk_99_zs1_99_f02_X9_sumsOf_2)), zk_99_zs1_99_f02_X9_sumsOf_13), (11, (0, 0)))
noncomputable def h1_X9_sumsOf_177 : zH 4 := (show zT 4 from ((zk_99_zs1_99_f02_X9_sumsOf_12, (((0, 456, bg_94), zk_99_zs1_99_f02_X9_sumsOf_10), zk_99_zs1_99_f02_X9_sumsOf_2)), zk_99_zs1_99_f02_X9_sumsOf_13), (11, (0, 0)))
theorem ev_X9_sumsOf_177 : f_X9_sumsOfa [zR 1, zR 2] h0_X9_sumsOf_177 (zrk (zU) h1_X9_sumsOf_177) = true := by decide +kernel
noncomputable def g_X9_sumsOf_177 {d : Nat} : List zV → zH d → zP d → Bool := zsmyM [(0, 0), (0, 1), (1, 21), (1, 20), (1, 22), (1, 33), (1, 3), (1, 31), (1, 32), (1, 26), (1, 27)] [zR 1, zR 2] h0_X9_sumsOf_177 (zU) h1_X9_sumsOf_177
theorem mg_X9_sumsOf_177 {d : Nat} : zMet (d := d) X_X9_sumsOf yX9_sumsOf 17 g_X9_sumsOf_177 := zMet_smM m_X9_sumsOfa ev_X9_sumsOf_177
noncomputable def h0_X9_sumsOf_178 : zH 4 := (show zT 4 from ((zk_99_zs1_99_f02_X9_sumsOf_12, (((0, 456, bg_94), zk_99_zs1_99_f02_X9_sumsOf_11), zk_99_zs1_99_f02_X9_sumsOf_2)), zk_99_zs1_99_f02_X9_sumsOf_13), (11, (0, 0)))
noncomputable def h1_X9_sumsOf_178 : zH 4 := (show zT 4 from ((zk_99_zs1_99_f02_X9_sumsOf_12, (((0, 456, bg_94), zk_99_zs1_99_f02_X9_sumsOf_11), zk_99_zs1_99_f02_X9_sumsOf_2)), zk_99_zs1_99_f02_X9_sumsOf_13), (11, (0, 0)))
theorem ev_X9_sumsOf_178 : f_X9_sumsOfa [zR 1, zR 2] h0_X9_sumsOf_178 (zrk (zU) h1_X9_sumsOf_178) = true := by decide +kernel
noncomputable def g_X9_sumsOf_178 {d : Nat} : List zV → zH d → zP d → Bool := zsmyM [(0, 0), (0, 1), (1, 21), (1, 20), (1, 22), (1, 33), (1, 3), (1, 31), (1, 32), (1, 26), (1, 27)] [zR 1, zR 2] h0_X9_sumsOf_178 (zU) h1_X9_sumsOf_178
theorem mg_X9_sumsOf_178 {d : Nat} : zMet (d := d) X_X9_sumsOf yX9_sumsOf 17 g_X9_sumsOf_178 := zMet_smM m_X9_sumsOfa ev_X9_sumsOf_178
noncomputable def h0_X9_sumsOf_179 : zH 4 := (show zT 4 from ((zk_99_zs1_99_f02_X9_sumsOf_12, (((0, 456, bg_94), zk_99_zs1_99_f02_X9_sumsOf_1), zk_99_zs1_99_f02_X9_sumsOf_2)), zk_99_zs1_99_f02_X9_sumsOf_13), (11, (0, 0)))
noncomputable def h1_X9_sumsOf_179 : zH 4 := (show zT 4 from ((zk_99_zs1_99_f02_X9_sumsOf_12, (((0, 456, bg_94), zk_99_zs1_99_f02_X9_sumsOf_1), zk_99_zs1_99_f02_X9_sumsOf_2)), zk_99_zs1_99_f02_X9_sumsOf_13), (11, (0, 0)))
theorem ev_X9_sumsOf_179 : f_X9_sumsOfa [zR 1, zR 2] h0_X9_sumsOf_179 (zrk (zU) h1_X9_sumsOf_179) = true := by decide +kernel
noncomputable def g_X9_sumsOf_179 {d : Nat} : List zV → zH d → zP d → Bool := zsmyM [(0, 0), (0, 1), (1, 21), (1, 20), (1, 22), (1, 33), (1, 3), (1, 31), (1, 32), (1, 26), (1, 27)] [zR 1, zR 2] h0_X9_sumsOf_179 (zU) h1_X9_sumsOf_179
theorem mg_X9_sumsOf_179 {d : Nat} : zMet (d := d) X_X9_sumsOf yX9_sumsOf 17 g_X9_sumsOf_179 := zMet_smM m_X9_sumsOfa ev_X9_sumsOf_179
noncomputable def h0_X9_sumsOf_180 : zH 4 := (show zT 4 from ((zk_99_zs1_99_f02_X9_sumsOf_12, (((0, 456, bg_94), zk_99_zs1_99_f02_X9_sumsOf_5), zk_99_zs1_99_f02_X9_sumsOf_2)), zk_99_zs1_99_f02_X9_sumsOf_13), (11, (0, 0)))
noncomputable def h1_X9_sumsOf_180 : zH 4 := (show zT 4 from ((zk_99_zs1_99_f02_X9_sumsOf_12, (((0, 456, bg_94), zk_99_zs1_99_f02_X9_sumsOf_5), zk_99_zs1_99_f02_X9_sumsOf_2)), zk_99_zs1_99_f02_X9_sumsOf_13), (11, (0, 0)))
theorem ev_X9_sumsOf_180 : f_X9_sumsOfa [zR 1, zR 2] h0_X9_sumsOf_180 (zrk (zU) h1_X9_sumsOf_180) = true := by decide +kernel
noncomputable def g_X9_sumsOf_180 {d : Nat} : List zV → zH d → zP d → Bool := zsmyM [(0, 0), (0, 1), (1, 21), (1, 20), (1, 22), (1, 33), (1, 3), (1, 31), (1, 32), (1, 26), (1, 27)] [zR 1, zR 2] h0_X9_sumsOf_180 (zU) h1_X9_sumsOf_180
theorem mg_X9_sumsOf_180 {d : Nat} : zMet (d := d) X_X9_sumsOf yX9_sumsOf 17 g_X9_sumsOf_180 := zMet_smM m_X9_sumsOfa ev_X9_sumsOf_180
noncomputable def h0_X9_sumsOf_181 : zH 4 := (show zT 4 from ((zk_99_zs1_99_f02_X9_sumsOf_12, (((0, 456, bg_94), zk_99_zs1_99_f02_X9_sumsOf_6), zk_99_zs1_99_f02_X9_sumsOf_2)), zk_99_zs1_99_f02_X9_sumsOf_13), (11, (0, 0)))
noncomputable def h1_X9_sumsOf_181 : zH 4 := (show zT 4 from ((zk_99_zs1_99_f02_X9_sumsOf_12, (((0, 456, bg_94), zk_99_zs1_99_f02_X9_sumsOf_6), zk_99_zs1_99_f02_X9_sumsOf_2)), zk_99_zs1_99_f02_X9_sumsOf_13), (11, (0, 0)))
theorem ev_X9_sumsOf_181 : f_X9_sumsOfa [zR 1, zR 2] h0_X9_sumsOf_181 (zrk (zU) h1_X9_sumsOf_181) = true := by decide +kernel
noncomputable def g_X9_sumsOf_181 {d : Nat} : List zV → zH d → zP d → Bool := zsmyM [(0, 0), (0, 1), (1, 21), (1, 20), (1, 22), (1, 33), (1, 3), (1, 31), (1, 32), (1, 26), (1, 27)] [zR 1, zR 2] h0_X9_sumsOf_181 (zU) h1_X9_sumsOf_181
theorem mg_X9_sumsOf_181 {d : Nat} : zMet (d := d) X_X9_sumsOf yX9_sumsOf 17 g_X9_sumsOf_181 := zMet_smM m_X9_sumsOfa ev_X9_sumsOf_181
noncomputable def zk_99_zs1_99_f02_X9_sumsOf_14 : zT 2 := @Prod.mk (zT 1) (zT 1) ((25, 63, bg_171), (0, 12000, zun 40 12000 4294967296)) ((0, 11, bg_8), (0, 11, bg_131))
noncomputable def zk_99_zs1_99_f02_X9_sumsOf_15 : zC := (0, 7, 0x1000000000600000000050000000004000000000300000000020100000000)
noncomputable def zk_99_zs1_99_f02_X9_sumsOf_16 : zT 3 := @Prod.mk (zT 2) (zT 2) ((zk_99_zs1_99_f02_X9_sumsOf_3, (10, 46656, 6)), ((11, 720, 6), (0, 0, 0))) zO2
noncomputable def h0_X9_sumsOf_182 : zH 4 := (show zT 4 from ((zk_99_zs1_99_f02_X9_sumsOf_14, (((0, 456, bg_70), zk_99_zs1_99_f02_X9_sumsOf_15), zk_99_zs1_99_f02_X9_sumsOf_2)), zk_99_zs1_99_f02_X9_sumsOf_16), (11, (0, 0)))
noncomputable def h1_X9_sumsOf_182 : zH 4 := (show zT 4 from ((zk_99_zs1_99_f02_X9_sumsOf_14, (((0, 456, bg_70), zk_99_zs1_99_f02_X9_sumsOf_15), zk_99_zs1_99_f02_X9_sumsOf_2)), zk_99_zs1_99_f02_X9_sumsOf_16), (11, (0, 0)))
theorem ev_X9_sumsOf_182 : f_X9_sumsOfa [zR 1, zR 2] h0_X9_sumsOf_182 (zrk (zU) h1_X9_sumsOf_182) = true := by decide +kernel
noncomputable def g_X9_sumsOf_182 {d : Nat} : List zV → zH d → zP d → Bool := zsmyM [(0, 0), (0, 1), (1, 21), (1, 20), (1, 22), (1, 33), (1, 3), (1, 31), (1, 32), (1, 26), (1, 27)] [zR 1, zR 2] h0_X9_sumsOf_182 (zU) h1_X9_sumsOf_182
theorem mg_X9_sumsOf_182 {d : Nat} : zMet (d := d) X_X9_sumsOf yX9_sumsOf 17 g_X9_sumsOf_182 := zMet_smM m_X9_sumsOfa ev_X9_sumsOf_182
noncomputable def zk_99_zs1_99_f02_X9_sumsOf_17 : zC := (0, 7, 0x2000000000100000000060000000005000000000400000000030100000000)
noncomputable def h0_X9_sumsOf_183 : zH 4 := (show zT 4 from ((zk_99_zs1_99_f02_X9_sumsOf_14, (((0, 456, bg_70), zk_99_zs1_99_f02_X9_sumsOf_17), zk_99_zs1_99_f02_X9_sumsOf_2)), zk_99_zs1_99_f02_X9_sumsOf_16), (11, (0, 0)))
noncomputable def h1_X9_sumsOf_183 : zH 4 := (show zT 4 from ((zk_99_zs1_99_f02_X9_sumsOf_14, (((0, 456, bg_70), zk_99_zs1_99_f02_X9_sumsOf_17), zk_99_zs1_99_f02_X9_sumsOf_2)), zk_99_zs1_99_f02_X9_sumsOf_16), (11, (0, 0)))
theorem ev_X9_sumsOf_183 : f_X9_sumsOfa [zR 1, zR 2] h0_X9_sumsOf_183 (zrk (zU) h1_X9_sumsOf_183) = true := by decide +kernel
noncomputable def g_X9_sumsOf_183 {d : Nat} : List zV → zH d → zP d → Bool := zsmyM [(0, 0), (0, 1), (1, 21), (1, 20), (1, 22), (1, 33), (1, 3), (1, 31), (1, 32), (1, 26), (1, 27)] [zR 1, zR 2] h0_X9_sumsOf_183 (zU) h1_X9_sumsOf_183
theorem mg_X9_sumsOf_183 {d : Nat} : zMet (d := d) X_X9_sumsOf yX9_sumsOf 17 g_X9_sumsOf_183 := zMet_smM m_X9_sumsOfa ev_X9_sumsOf_183
noncomputable def zk_99_zs1_99_f02_X9_sumsOf_18 : zC := (0, 7, 0x3000000000200000000010000000006000000000500000000040100000000)
noncomputable def h0_X9_sumsOf_184 : zH 4 := (show zT 4 from ((zk_99_zs1_99_f02_X9_sumsOf_14, (((0, 456, bg_70), zk_99_zs1_99_f02_X9_sumsOf_18), zk_99_zs1_99_f02_X9_sumsOf_2)), zk_99_zs1_99_f02_X9_sumsOf_16), (11, (0, 0)))
noncomputable def h1_X9_sumsOf_184 : zH 4 := (show zT 4 from ((zk_99_zs1_99_f02_X9_sumsOf_14, (((0, 456, bg_70), zk_99_zs1_99_f02_X9_sumsOf_18), zk_99_zs1_99_f02_X9_sumsOf_2)), zk_99_zs1_99_f02_X9_sumsOf_16), (11, (0, 0)))
theorem ev_X9_sumsOf_184 : f_X9_sumsOfa [zR 1, zR 2] h0_X9_sumsOf_184 (zrk (zU) h1_X9_sumsOf_184) = true := by decide +kernel
noncomputable def g_X9_sumsOf_184 {d : Nat} : List zV → zH d → zP d → Bool := zsmyM [(0, 0), (0, 1), (1, 21), (1, 20), (1, 22), (1, 33), (1, 3), (1, 31), (1, 32), (1, 26), (1, 27)] [zR 1, zR 2] h0_X9_sumsOf_184 (zU) h1_X9_sumsOf_184
theorem mg_X9_sumsOf_184 {d : Nat} : zMet (d := d) X_X9_sumsOf yX9_sumsOf 17 g_X9_sumsOf_184 := zMet_smM m_X9_sumsOfa ev_X9_sumsOf_184
noncomputable def zk_99_zs1_99_f02_X9_sumsOf_19 : zC := (0, 7, 0x6000000000400000000050000000001000000000300000000020100000000)
noncomputable def h0_X9_sumsOf_185 : zH 4 := (show zT 4 from ((zk_99_zs1_99_f02_X9_sumsOf_14, (((0, 456, bg_70), zk_99_zs1_99_f02_X9_sumsOf_19), zk_99_zs1_99_f02_X9_sumsOf_2)), zk_99_zs1_99_f02_X9_sumsOf_16), (11, (0, 0)))
noncomputable def h1_X9_sumsOf_185 : zH 4 := (show zT 4 from ((zk_99_zs1_99_f02_X9_sumsOf_14, (((0, 456, bg_70), zk_99_zs1_99_f02_X9_sumsOf_19), zk_99_zs1_99_f02_X9_sumsOf_2)), zk_99_zs1_99_f02_X9_sumsOf_16), (11, (0, 0)))
theorem ev_X9_sumsOf_185 : f_X9_sumsOfa [zR 1, zR 2] h0_X9_sumsOf_185 (zrk (zU) h1_X9_sumsOf_185) = true := by decide +kernel
noncomputable def g_X9_sumsOf_185 {d : Nat} : List zV → zH d → zP d → Bool := zsmyM [(0, 0), (0, 1), (1, 21), (1, 20), (1, 22), (1, 33), (1, 3), (1, 31), (1, 32), (1, 26), (1, 27)] [zR 1, zR 2] h0_X9_sumsOf_185 (zU) h1_X9_sumsOf_185
theorem mg_X9_sumsOf_185 {d : Nat} : zMet (d := d) X_X9_sumsOf yX9_sumsOf 17 g_X9_sumsOf_185 := zMet_smM m_X9_sumsOfa ev_X9_sumsOf_185
noncomputable def zk_99_zs1_99_f02_X9_sumsOf_20 : zC := (0, 7, 0x6000000000500000000040000000002000000000100000000030100000000)
noncomputable def h0_X9_sumsOf_186 : zH 4 := (show zT 4 from ((zk_99_zs1_99_f02_X9_sumsOf_14, (((0, 456, bg_70), zk_99_zs1_99_f02_X9_sumsOf_20), zk_99_zs1_99_f02_X9_sumsOf_2)), zk_99_zs1_99_f02_X9_sumsOf_16), (11, (0, 0)))
noncomputable def h1_X9_sumsOf_186 : zH 4 := (show zT 4 from ((zk_99_zs1_99_f02_X9_sumsOf_14, (((0, 456, bg_70), zk_99_zs1_99_f02_X9_sumsOf_20), zk_99_zs1_99_f02_X9_sumsOf_2)), zk_99_zs1_99_f02_X9_sumsOf_16), (11, (0, 0)))
theorem ev_X9_sumsOf_186 : f_X9_sumsOfa [zR 1, zR 2] h0_X9_sumsOf_186 (zrk (zU) h1_X9_sumsOf_186) = true := by decide +kernel
noncomputable def g_X9_sumsOf_186 {d : Nat} : List zV → zH d → zP d → Bool := zsmyM [(0, 0), (0, 1), (1, 21), (1, 20), (1, 22), (1, 33), (1, 3), (1, 31), (1, 32), (1, 26), (1, 27)] [zR 1, zR 2] h0_X9_sumsOf_186 (zU) h1_X9_sumsOf_186
theorem mg_X9_sumsOf_186 {d : Nat} : zMet (d := d) X_X9_sumsOf yX9_sumsOf 17 g_X9_sumsOf_186 := zMet_smM m_X9_sumsOfa ev_X9_sumsOf_186
noncomputable def zk_99_zs1_99_f02_X9_sumsOf_21 : zC := (0, 7, 0x6000000000400000000050000000003000000000200000000010100000000)
noncomputable def h0_X9_sumsOf_187 : zH 4 := (show zT 4 from ((zk_99_zs1_99_f02_X9_sumsOf_14, (((0, 456, bg_70), zk_99_zs1_99_f02_X9_sumsOf_21), zk_99_zs1_99_f02_X9_sumsOf_2)), zk_99_zs1_99_f02_X9_sumsOf_16), (11, (0, 0)))
noncomputable def h1_X9_sumsOf_187 : zH 4 := (show zT 4 from ((zk_99_zs1_99_f02_X9_sumsOf_14, (((0, 456, bg_70), zk_99_zs1_99_f02_X9_sumsOf_21), zk_99_zs1_99_f02_X9_sumsOf_2)), zk_99_zs1_99_f02_X9_sumsOf_16), (11, (0, 0)))
theorem ev_X9_sumsOf_187 : f_X9_sumsOfa [zR 1, zR 2] h0_X9_sumsOf_187 (zrk (zU) h1_X9_sumsOf_187) = true := by decide +kernel
noncomputable def g_X9_sumsOf_187 {d : Nat} : List zV → zH d → zP d → Bool := zsmyM [(0, 0), (0, 1), (1, 21), (1, 20), (1, 22), (1, 33), (1, 3), (1, 31), (1, 32), (1, 26), (1, 27)] [zR 1, zR 2] h0_X9_sumsOf_187 (zU) h1_X9_sumsOf_187
theorem mg_X9_sumsOf_187 {d : Nat} : zMet (d := d) X_X9_sumsOf yX9_sumsOf 17 g_X9_sumsOf_187 := zMet_smM m_X9_sumsOfa ev_X9_sumsOf_187
noncomputable def zk_99_zs1_99_f02_X9_sumsOf_22 : zT 2 := @Prod.mk (zT 1) (zT 1) ((25, 63, bg_172), (0, 12000, zun 40 12000 4294967296)) ((0, 11, bg_173), (0, 11, bg_135))
noncomputable def zk_99_zs1_99_f02_X9_sumsOf_23 : zT 3 := @Prod.mk (zT 2) (zT 2) ((zk_99_zs1_99_f02_X9_sumsOf_3, (10, 46656, 13)), ((11, 720, 13), (0, 0, 0))) zO2
noncomputable def h0_X9_sumsOf_188 : zH 4 := (show zT 4 from ((zk_99_zs1_99_f02_X9_sumsOf_22, (((0, 456, bg_73), zk_99_zs1_99_f02_X9_sumsOf_15), zk_99_zs1_99_f02_X9_sumsOf_2)), zk_99_zs1_99_f02_X9_sumsOf_23), (11, (0, 0)))
noncomputable def h1_X9_sumsOf_188 : zH 4 := (show zT 4 from ((zk_99_zs1_99_f02_X9_sumsOf_22, (((0, 456, bg_73), zk_99_zs1_99_f02_X9_sumsOf_15), zk_99_zs1_99_f02_X9_sumsOf_2)), zk_99_zs1_99_f02_X9_sumsOf_23), (11, (0, 0)))
theorem ev_X9_sumsOf_188 : f_X9_sumsOfa [zR 1, zR 2] h0_X9_sumsOf_188 (zrk (zU) h1_X9_sumsOf_188) = true := by decide +kernel
noncomputable def g_X9_sumsOf_188 {d : Nat} : List zV → zH d → zP d → Bool := zsmyM [(0, 0), (0, 1), (1, 21), (1, 20), (1, 22), (1, 33), (1, 3), (1, 31), (1, 32), (1, 26), (1, 27)] [zR 1, zR 2] h0_X9_sumsOf_188 (zU) h1_X9_sumsOf_188
theorem mg_X9_sumsOf_188 {d : Nat} : zMet (d := d) X_X9_sumsOf yX9_sumsOf 17 g_X9_sumsOf_188 := zMet_smM m_X9_sumsOfa ev_X9_sumsOf_188
noncomputable def h0_X9_sumsOf_189 : zH 4 := (show zT 4 from ((zk_99_zs1_99_f02_X9_sumsOf_22, (((0, 456, bg_73), zk_99_zs1_99_f02_X9_sumsOf_17), zk_99_zs1_99_f02_X9_sumsOf_2)), zk_99_zs1_99_f02_X9_sumsOf_23), (11, (0, 0)))
noncomputable def h1_X9_sumsOf_189 : zH 4 := (show zT 4 from ((zk_99_zs1_99_f02_X9_sumsOf_22, (((0, 456, bg_73), zk_99_zs1_99_f02_X9_sumsOf_17), zk_99_zs1_99_f02_X9_sumsOf_2)), zk_99_zs1_99_f02_X9_sumsOf_23), (11, (0, 0)))
theorem ev_X9_sumsOf_189 : f_X9_sumsOfa [zR 1, zR 2] h0_X9_sumsOf_189 (zrk (zU) h1_X9_sumsOf_189) = true := by decide +kernel
noncomputable def g_X9_sumsOf_189 {d : Nat} : List zV → zH d → zP d → Bool := zsmyM [(0, 0), (0, 1), (1, 21), (1, 20), (1, 22), (1, 33), (1, 3), (1, 31), (1, 32), (1, 26), (1, 27)] [zR 1, zR 2] h0_X9_sumsOf_189 (zU) h1_X9_sumsOf_189
theorem mg_X9_sumsOf_189 {d : Nat} : zMet (d := d) X_X9_sumsOf yX9_sumsOf 17 g_X9_sumsOf_189 := zMet_smM m_X9_sumsOfa ev_X9_sumsOf_189
noncomputable def h0_X9_sumsOf_190 : zH 4 := (show zT 4 from ((zk_99_zs1_99_f02_X9_sumsOf_22, (((0, 456, bg_73), zk_99_zs1_99_f02_X9_sumsOf_18), zk_99_zs1_99_f02_X9_sumsOf_2)), zk_99_zs1_99_f02_X9_sumsOf_23), (11, (0, 0)))
noncomputable def h1_X9_sumsOf_190 : zH 4 := (show zT 4 from ((zk_99_zs1_99_f02_X9_sumsOf_22, (((0, 456, bg_73), zk_99_zs1_99_f02_X9_sumsOf_18), zk_99_zs1_99_f02_X9_sumsOf_2)), zk_99_zs1_99_f02_X9_sumsOf_23), (11, (0, 0)))
theorem ev_X9_sumsOf_190 : f_X9_sumsOfa [zR 1, zR 2] h0_X9_sumsOf_190 (zrk (zU) h1_X9_sumsOf_190) = true := by decide +kernel
noncomputable def g_X9_sumsOf_190 {d : Nat} : List zV → zH d → zP d → Bool := zsmyM [(0, 0), (0, 1), (1, 21), (1, 20), (1, 22), (1, 33), (1, 3), (1, 31), (1, 32), (1, 26), (1, 27)] [zR 1, zR 2] h0_X9_sumsOf_190 (zU) h1_X9_sumsOf_190
theorem mg_X9_sumsOf_190 {d : Nat} : zMet (d := d) X_X9_sumsOf yX9_sumsOf 17 g_X9_sumsOf_190 := zMet_smM m_X9_sumsOfa ev_X9_sumsOf_190
noncomputable def h0_X9_sumsOf_191 : zH 4 := (show zT 4 from ((zk_99_zs1_99_f02_X9_sumsOf_22, (((0, 456, bg_73), zk_99_zs1_99_f02_X9_sumsOf_19), zk_99_zs1_99_f02_X9_sumsOf_2)), zk_99_zs1_99_f02_X9_sumsOf_23), (11, (0, 0)))
noncomputable def h1_X9_sumsOf_191 : zH 4 := (show zT 4 from ((zk_99_zs1_99_f02_X9_sumsOf_22, (((0, 456, bg_73), zk_99_zs1_99_f02_X9_sumsOf_19), zk_99_zs1_99_f02_X9_sumsOf_2)), zk_99_zs1_99_f02_X9_sumsOf_23), (11, (0, 0)))
theorem ev_X9_sumsOf_191 : f_X9_sumsOfa [zR 1, zR 2] h0_X9_sumsOf_191 (zrk (zU) h1_X9_sumsOf_191) = true := by decide +kernel
noncomputable def g_X9_sumsOf_191 {d : Nat} : List zV → zH d → zP d → Bool := zsmyM [(0, 0), (0, 1), (1, 21), (1, 20), (1, 22), (1, 33), (1, 3), (1, 31), (1, 32), (1, 26), (1, 27)] [zR 1, zR 2] h0_X9_sumsOf_191 (zU) h1_X9_sumsOf_191
theorem mg_X9_sumsOf_191 {d : Nat} : zMet (d := d) X_X9_sumsOf yX9_sumsOf 17 g_X9_sumsOf_191 := zMet_smM m_X9_sumsOfa ev_X9_sumsOf_191
noncomputable def h0_X9_sumsOf_192 : zH 4 := (show zT 4 from ((zk_99_zs1_99_f02_X9_sumsOf_22, (((0, 456, bg_73), zk_99_zs1_99_f02_X9_sumsOf_20), zk_99_zs1_99_f02_X9_sumsOf_2)), zk_99_zs1_99_f02_X9_sumsOf_23), (11, (0, 0)))
noncomputable def h1_X9_sumsOf_192 : zH 4 := (show zT 4 from ((zk_99_zs1_99_f02_X9_sumsOf_22, (((0, 456, bg_73), zk_99_zs1_99_f02_X9_sumsOf_20), zk_99_zs1_99_f02_X9_sumsOf_2)), zk_99_zs1_99_f02_X9_sumsOf_23), (11, (0, 0)))
theorem ev_X9_sumsOf_192 : f_X9_sumsOfa [zR 1, zR 2] h0_X9_sumsOf_192 (zrk (zU) h1_X9_sumsOf_192) = true := by decide +kernel
noncomputable def g_X9_sumsOf_192 {d : Nat} : List zV → zH d → zP d → Bool := zsmyM [(0, 0), (0, 1), (1, 21), (1, 20), (1, 22), (1, 33), (1, 3), (1, 31), (1, 32), (1, 26), (1, 27)] [zR 1, zR 2] h0_X9_sumsOf_192 (zU) h1_X9_sumsOf_192
theorem mg_X9_sumsOf_192 {d : Nat} : zMet (d := d) X_X9_sumsOf yX9_sumsOf 17 g_X9_sumsOf_192 := zMet_smM m_X9_sumsOfa ev_X9_sumsOf_192
noncomputable def h0_X9_sumsOf_193 : zH 4 := (show zT 4 from ((zk_99_zs1_99_f02_X9_sumsOf_22, (((0, 456, bg_73), zk_99_zs1_99_f02_X9_sumsOf_21), zk_99_zs1_99_f02_X9_sumsOf_2)), zk_99_zs1_99_f02_X9_sumsOf_23), (11, (0, 0)))
noncomputable def h1_X9_sumsOf_193 : zH 4 := (show zT 4 from ((zk_99_zs1_99_f02_X9_sumsOf_22, (((0, 456, bg_73), zk_99_zs1_99_f02_X9_sumsOf_21), zk_99_zs1_99_f02_X9_sumsOf_2)), zk_99_zs1_99_f02_X9_sumsOf_23), (11, (0, 0)))
theorem ev_X9_sumsOf_193 : f_X9_sumsOfa [zR 1, zR 2] h0_X9_sumsOf_193 (zrk (zU) h1_X9_sumsOf_193) = true := by decide +kernel
noncomputable def g_X9_sumsOf_193 {d : Nat} : List zV → zH d → zP d → Bool := zsmyM [(0, 0), (0, 1), (1, 21), (1, 20), (1, 22), (1, 33), (1, 3), (1, 31), (1, 32), (1, 26), (1, 27)] [zR 1, zR 2] h0_X9_sumsOf_193 (zU) h1_X9_sumsOf_193
theorem mg_X9_sumsOf_193 {d : Nat} : zMet (d := d) X_X9_sumsOf yX9_sumsOf 17 g_X9_sumsOf_193 := zMet_smM m_X9_sumsOfa ev_X9_sumsOf_193
noncomputable def zk_99_zs1_99_f02_X9_sumsOf_24 : zT 2 := @Prod.mk (zT 1) (zT 1) ((25, 63, bg_174), (0, 12000, zun 40 12000 4294967296)) ((0, 11, bg_175), (0, 11, bg_176))
noncomputable def zk_99_zs1_99_f02_X9_sumsOf_25 : zT 3 := @Prod.mk (zT 2) (zT 2) ((zk_99_zs1_99_f02_X9_sumsOf_3, (10, 46656, 20)), ((11, 720, 20), (0, 0, 0))) zO2
noncomputable def h0_X9_sumsOf_194 : zH 4 := (show zT 4 from ((zk_99_zs1_99_f02_X9_sumsOf_24, (((0, 456, bg_76), zk_99_zs1_99_f02_X9_sumsOf_15), zk_99_zs1_99_f02_X9_sumsOf_2)), zk_99_zs1_99_f02_X9_sumsOf_25), (11, (0, 0)))
noncomputable def h1_X9_sumsOf_194 : zH 4 := (show zT 4 from ((zk_99_zs1_99_f02_X9_sumsOf_24, (((0, 456, bg_76), zk_99_zs1_99_f02_X9_sumsOf_15), zk_99_zs1_99_f02_X9_sumsOf_2)), zk_99_zs1_99_f02_X9_sumsOf_25), (11, (0, 0)))
theorem ev_X9_sumsOf_194 : f_X9_sumsOfa [zR 1, zR 2] h0_X9_sumsOf_194 (zrk (zU) h1_X9_sumsOf_194) = true := by decide +kernel
noncomputable def g_X9_sumsOf_194 {d : Nat} : List zV → zH d → zP d → Bool := zsmyM [(0, 0), (0, 1), (1, 21), (1, 20), (1, 22), (1, 33), (1, 3), (1, 31), (1, 32), (1, 26), (1, 27)] [zR 1, zR 2] h0_X9_sumsOf_194 (zU) h1_X9_sumsOf_194
theorem mg_X9_sumsOf_194 {d : Nat} : zMet (d := d) X_X9_sumsOf yX9_sumsOf 17 g_X9_sumsOf_194 := zMet_smM m_X9_sumsOfa ev_X9_sumsOf_194
noncomputable def h0_X9_sumsOf_195 : zH 4 := (show zT 4 from ((zk_99_zs1_99_f02_X9_sumsOf_24, (((0, 456, bg_76), zk_99_zs1_99_f02_X9_sumsOf_17), zk_99_zs1_99_f02_X9_sumsOf_2)), zk_99_zs1_99_f02_X9_sumsOf_25), (11, (0, 0)))
noncomputable def h1_X9_sumsOf_195 : zH 4 := (show zT 4 from ((zk_99_zs1_99_f02_X9_sumsOf_24, (((0, 456, bg_76), zk_99_zs1_99_f02_X9_sumsOf_17), zk_99_zs1_99_f02_X9_sumsOf_2)), zk_99_zs1_99_f02_X9_sumsOf_25), (11, (0, 0)))
theorem ev_X9_sumsOf_195 : f_X9_sumsOfa [zR 1, zR 2] h0_X9_sumsOf_195 (zrk (zU) h1_X9_sumsOf_195) = true := by decide +kernel
noncomputable def g_X9_sumsOf_195 {d : Nat} : List zV → zH d → zP d → Bool := zsmyM [(0, 0), (0, 1), (1, 21), (1, 20), (1, 22), (1, 33), (1, 3), (1, 31), (1, 32), (1, 26), (1, 27)] [zR 1, zR 2] h0_X9_sumsOf_195 (zU) h1_X9_sumsOf_195
theorem mg_X9_sumsOf_195 {d : Nat} : zMet (d := d) X_X9_sumsOf yX9_sumsOf 17 g_X9_sumsOf_195 := zMet_smM m_X9_sumsOfa ev_X9_sumsOf_195
noncomputable def h0_X9_sumsOf_196 : zH 4 := (show zT 4 from ((zk_99_zs1_99_f02_X9_sumsOf_24, (((0, 456, bg_76), zk_99_zs1_99_f02_X9_sumsOf_18), zk_99_zs1_99_f02_X9_sumsOf_2)), zk_99_zs1_99_f02_X9_sumsOf_25), (11, (0, 0)))
noncomputable def h1_X9_sumsOf_196 : zH 4 := (show zT 4 from ((zk_99_zs1_99_f02_X9_sumsOf_24, (((0, 456, bg_76), zk_99_zs1_99_f02_X9_sumsOf_18), zk_99_zs1_99_f02_X9_sumsOf_2)), zk_99_zs1_99_f02_X9_sumsOf_25), (11, (0, 0)))
theorem ev_X9_sumsOf_196 : f_X9_sumsOfa [zR 1, zR 2] h0_X9_sumsOf_196 (zrk (zU) h1_X9_sumsOf_196) = true := by decide +kernel
noncomputable def g_X9_sumsOf_196 {d : Nat} : List zV → zH d → zP d → Bool := zsmyM [(0, 0), (0, 1), (1, 21), (1, 20), (1, 22), (1, 33), (1, 3), (1, 31), (1, 32), (1, 26), (1, 27)] [zR 1, zR 2] h0_X9_sumsOf_196 (zU) h1_X9_sumsOf_196
theorem mg_X9_sumsOf_196 {d : Nat} : zMet (d := d) X_X9_sumsOf yX9_sumsOf 17 g_X9_sumsOf_196 := zMet_smM m_X9_sumsOfa ev_X9_sumsOf_196
noncomputable def h0_X9_sumsOf_197 : zH 4 := (show zT 4 from ((zk_99_zs1_99_f02_X9_sumsOf_24, (((0, 456, bg_76), zk_99_zs1_99_f02_X9_sumsOf_19), zk_99_zs1_99_f02_X9_sumsOf_2)), zk_99_zs1_99_f02_X9_sumsOf_25), (11, (0, 0)))
noncomputable def h1_X9_sumsOf_197 : zH 4 := (show zT 4 from ((zk_99_zs1_99_f02_X9_sumsOf_24, (((0, 456, bg_76), zk_99_zs1_99_f02_X9_sumsOf_19), zk_99_zs1_99_f02_X9_sumsOf_2)), zk_99_zs1_99_f02_X9_sumsOf_25), (11, (0, 0)))
theorem ev_X9_sumsOf_197 : f_X9_sumsOfa [zR 1, zR 2] h0_X9_sumsOf_197 (zrk (zU) h1_X9_sumsOf_197) = true := by decide +kernel
noncomputable def g_X9_sumsOf_197 {d : Nat} : List zV → zH d → zP d → Bool := zsmyM [(0, 0), (0, 1), (1, 21), (1, 20), (1, 22), (1, 33), (1, 3), (1, 31), (1, 32), (1, 26), (1, 27)] [zR 1, zR 2] h0_X9_sumsOf_197 (zU) h1_X9_sumsOf_197
theorem mg_X9_sumsOf_197 {d : Nat} : zMet (d := d) X_X9_sumsOf yX9_sumsOf 17 g_X9_sumsOf_197 := zMet_smM m_X9_sumsOfa ev_X9_sumsOf_197
noncomputable def h0_X9_sumsOf_198 : zH 4 := (show zT 4 from ((zk_99_zs1_99_f02_X9_sumsOf_24, (((0, 456, bg_76), zk_99_zs1_99_f02_X9_sumsOf_20), zk_99_zs1_99_f02_X9_sumsOf_2)), zk_99_zs1_99_f02_X9_sumsOf_25), (11, (0, 0)))
noncomputable def h1_X9_sumsOf_198 : zH 4 := (show zT 4 from ((zk_99_zs1_99_f02_X9_sumsOf_24, (((0, 456, bg_76), zk_99_zs1_99_f02_X9_sumsOf_20), zk_99_zs1_99_f02_X9_sumsOf_2)), zk_99_zs1_99_f02_X9_sumsOf_25), (11, (0, 0)))
theorem ev_X9_sumsOf_198 : f_X9_sumsOfa [zR 1, zR 2] h0_X9_sumsOf_198 (zrk (zU) h1_X9_sumsOf_198) = true := by decide +kernel
noncomputable def g_X9_sumsOf_198 {d : Nat} : List zV → zH d → zP d → Bool := zsmyM [(0, 0), (0, 1), (1, 21), (1, 20), (1, 22), (1, 33), (1, 3), (1, 31), (1, 32), (1, 26), (1, 27)] [zR 1, zR 2] h0_X9_sumsOf_198 (zU) h1_X9_sumsOf_198
theorem mg_X9_sumsOf_198 {d : Nat} : zMet (d := d) X_X9_sumsOf yX9_sumsOf 17 g_X9_sumsOf_198 := zMet_smM m_X9_sumsOfa ev_X9_sumsOf_198
noncomputable def h0_X9_sumsOf_199 : zH 4 := (show zT 4 from ((zk_99_zs1_99_f02_X9_sumsOf_24, (((0, 456, bg_76), zk_99_zs1_99_f02_X9_sumsOf_21), zk_99_zs1_99_f02_X9_sumsOf_2)), zk_99_zs1_99_f02_X9_sumsOf_25), (11, (0, 0)))
noncomputable def h1_X9_sumsOf_199 : zH 4 := (show zT 4 from ((zk_99_zs1_99_f02_X9_sumsOf_24, (((0, 456, bg_76), zk_99_zs1_99_f02_X9_sumsOf_21), zk_99_zs1_99_f02_X9_sumsOf_2)), zk_99_zs1_99_f02_X9_sumsOf_25), (11, (0, 0)))
theorem ev_X9_sumsOf_199 : f_X9_sumsOfa [zR 1, zR 2] h0_X9_sumsOf_199 (zrk (zU) h1_X9_sumsOf_199) = true := by decide +kernel
noncomputable def g_X9_sumsOf_199 {d : Nat} : List zV → zH d → zP d → Bool := zsmyM [(0, 0), (0, 1), (1, 21), (1, 20), (1, 22), (1, 33), (1, 3), (1, 31), (1, 32), (1, 26), (1, 27)] [zR 1, zR 2] h0_X9_sumsOf_199 (zU) h1_X9_sumsOf_199
theorem mg_X9_sumsOf_199 {d : Nat} : zMet (d := d) X_X9_sumsOf yX9_sumsOf 17 g_X9_sumsOf_199 := zMet_smM m_X9_sumsOfa ev_X9_sumsOf_199
noncomputable def zk_99_zs1_99_f02_X9_sumsOf_26 : zT 2 := @Prod.mk (zT 1) (zT 1) ((25, 63, bg_177), (0, 12000, zun 40 12000 4294967296)) ((0, 11, bg_178), (0, 11, bg_179))
noncomputable def zk_99_zs1_99_f02_X9_sumsOf_27 : zT 3 := @Prod.mk (zT 2) (zT 2) ((zk_99_zs1_99_f02_X9_sumsOf_3, (10, 46656, 76)), ((11, 720, 76), (0, 0, 0))) zO2
noncomputable def h0_X9_sumsOf_200 : zH 4 := (show zT 4 from ((zk_99_zs1_99_f02_X9_sumsOf_26, (((0, 456, bg_79), zk_99_zs1_99_f02_X9_sumsOf_15), zk_99_zs1_99_f02_X9_sumsOf_2)), zk_99_zs1_99_f02_X9_sumsOf_27), (11, (0, 0)))
noncomputable def h1_X9_sumsOf_200 : zH 4 := (show zT 4 from ((zk_99_zs1_99_f02_X9_sumsOf_26, (((0, 456, bg_79), zk_99_zs1_99_f02_X9_sumsOf_15), zk_99_zs1_99_f02_X9_sumsOf_2)), zk_99_zs1_99_f02_X9_sumsOf_27), (11, (0, 0)))
theorem ev_X9_sumsOf_200 : f_X9_sumsOfa [zR 1, zR 2] h0_X9_sumsOf_200 (zrk (zU) h1_X9_sumsOf_200) = true := by decide +kernel
noncomputable def g_X9_sumsOf_200 {d : Nat} : List zV → zH d → zP d → Bool := zsmyM [(0, 0), (0, 1), (1, 21), (1, 20), (1, 22), (1, 33), (1, 3), (1, 31), (1, 32), (1, 26), (1, 27)] [zR 1, zR 2] h0_X9_sumsOf_200 (zU) h1_X9_sumsOf_200
theorem mg_X9_sumsOf_200 {d : Nat} : zMet (d := d) X_X9_sumsOf yX9_sumsOf 17 g_X9_sumsOf_200 := zMet_smM m_X9_sumsOfa ev_X9_sumsOf_200
noncomputable def h0_X9_sumsOf_201 : zH 4 := (show zT 4 from ((zk_99_zs1_99_f02_X9_sumsOf_26, (((0, 456, bg_79), zk_99_zs1_99_f02_X9_sumsOf_17), zk_99_zs1_99_f02_X9_sumsOf_2)), zk_99_zs1_99_f02_X9_sumsOf_27), (11, (0, 0)))
noncomputable def h1_X9_sumsOf_201 : zH 4 := (show zT 4 from ((zk_99_zs1_99_f02_X9_sumsOf_26, (((0, 456, bg_79), zk_99_zs1_99_f02_X9_sumsOf_17), zk_99_zs1_99_f02_X9_sumsOf_2)), zk_99_zs1_99_f02_X9_sumsOf_27), (11, (0, 0)))
theorem ev_X9_sumsOf_201 : f_X9_sumsOfa [zR 1, zR 2] h0_X9_sumsOf_201 (zrk (zU) h1_X9_sumsOf_201) = true := by decide +kernel
noncomputable def g_X9_sumsOf_201 {d : Nat} : List zV → zH d → zP d → Bool := zsmyM [(0, 0), (0, 1), (1, 21), (1, 20), (1, 22), (1, 33), (1, 3), (1, 31), (1, 32), (1, 26), (1, 27)] [zR 1, zR 2] h0_X9_sumsOf_201 (zU) h1_X9_sumsOf_201
theorem mg_X9_sumsOf_201 {d : Nat} : zMet (d := d) X_X9_sumsOf yX9_sumsOf 17 g_X9_sumsOf_201 := zMet_smM m_X9_sumsOfa ev_X9_sumsOf_201
noncomputable def h0_X9_sumsOf_202 : zH 4 := (show zT 4 from ((zk_99_zs1_99_f02_X9_sumsOf_26, (((0, 456, bg_79), zk_99_zs1_99_f02_X9_sumsOf_18), zk_99_zs1_99_f02_X9_sumsOf_2)), zk_99_zs1_99_f02_X9_sumsOf_27), (11, (0, 0)))
noncomputable def h1_X9_sumsOf_202 : zH 4 := (show zT 4 from ((zk_99_zs1_99_f02_X9_sumsOf_26, (((0, 456, bg_79), zk_99_zs1_99_f02_X9_sumsOf_18), zk_99_zs1_99_f02_X9_sumsOf_2)), zk_99_zs1_99_f02_X9_sumsOf_27), (11, (0, 0)))
theorem ev_X9_sumsOf_202 : f_X9_sumsOfa [zR 1, zR 2] h0_X9_sumsOf_202 (zrk (zU) h1_X9_sumsOf_202) = true := by decide +kernel
noncomputable def g_X9_sumsOf_202 {d : Nat} : List zV → zH d → zP d → Bool := zsmyM [(0, 0), (0, 1), (1, 21), (1, 20), (1, 22), (1, 33), (1, 3), (1, 31), (1, 32), (1, 26), (1, 27)] [zR 1, zR 2] h0_X9_sumsOf_202 (zU) h1_X9_sumsOf_202
theorem mg_X9_sumsOf_202 {d : Nat} : zMet (d := d) X_X9_sumsOf yX9_sumsOf 17 g_X9_sumsOf_202 := zMet_smM m_X9_sumsOfa ev_X9_sumsOf_202
noncomputable def h0_X9_sumsOf_203 : zH 4 := (show zT 4 from ((zk_99_zs1_99_f02_X9_sumsOf_26, (((0, 456, bg_79), (0, 7, 0x4000000000600000000050000000001000000000300000000020100000000)), zk_99_zs1_99_f02_X9_sumsOf_2)), zk_99_zs1_99_f02_X9_sumsOf_27), (11, (0, 0)))
noncomputable def h1_X9_sumsOf_203 : zH 4 := (show zT 4 from ((zk_99_zs1_99_f02_X9_sumsOf_26, (((0, 456, bg_79), (0, 7, 0x4000000000600000000050000000001000000000300000000020100000000)), zk_99_zs1_99_f02_X9_sumsOf_2)), zk_99_zs1_99_f02_X9_sumsOf_27), (11, (0, 0)))
theorem ev_X9_sumsOf_203 : f_X9_sumsOfa [zR 1, zR 2] h0_X9_sumsOf_203 (zrk (zU) h1_X9_sumsOf_203) = true := by decide +kernel
noncomputable def g_X9_sumsOf_203 {d : Nat} : List zV → zH d → zP d → Bool := zsmyM [(0, 0), (0, 1), (1, 21), (1, 20), (1, 22), (1, 33), (1, 3), (1, 31), (1, 32), (1, 26), (1, 27)] [zR 1, zR 2] h0_X9_sumsOf_203 (zU) h1_X9_sumsOf_203
theorem mg_X9_sumsOf_203 {d : Nat} : zMet (d := d) X_X9_sumsOf yX9_sumsOf 17 g_X9_sumsOf_203 := zMet_smM m_X9_sumsOfa ev_X9_sumsOf_203
noncomputable def h0_X9_sumsOf_204 : zH 4 := (show zT 4 from ((zk_99_zs1_99_f02_X9_sumsOf_26, (((0, 456, bg_79), zk_99_zs1_99_f02_X9_sumsOf_19), zk_99_zs1_99_f02_X9_sumsOf_2)), zk_99_zs1_99_f02_X9_sumsOf_27), (11, (0, 0)))
noncomputable def h1_X9_sumsOf_204 : zH 4 := (show zT 4 from ((zk_99_zs1_99_f02_X9_sumsOf_26, (((0, 456, bg_79), zk_99_zs1_99_f02_X9_sumsOf_19), zk_99_zs1_99_f02_X9_sumsOf_2)), zk_99_zs1_99_f02_X9_sumsOf_27), (11, (0, 0)))
theorem ev_X9_sumsOf_204 : f_X9_sumsOfa [zR 1, zR 2] h0_X9_sumsOf_204 (zrk (zU) h1_X9_sumsOf_204) = true := by decide +kernel
noncomputable def g_X9_sumsOf_204 {d : Nat} : List zV → zH d → zP d → Bool := zsmyM [(0, 0), (0, 1), (1, 21), (1, 20), (1, 22), (1, 33), (1, 3), (1, 31), (1, 32), (1, 26), (1, 27)] [zR 1, zR 2] h0_X9_sumsOf_204 (zU) h1_X9_sumsOf_204
theorem mg_X9_sumsOf_204 {d : Nat} : zMet (d := d) X_X9_sumsOf yX9_sumsOf 17 g_X9_sumsOf_204 := zMet_smM m_X9_sumsOfa ev_X9_sumsOf_204
end
section
/-! the reference by summaries, by program -/
noncomputable def zk_99_zs1_99_f03_X9_sumsOf_0 : zT 2 := @Prod.mk (zT 1) (zT 1) ((25, 63, bg_177), (0, 12000, zun 40 12000 4294967296)) ((0, 11, bg_178), (0, 11, bg_179))
noncomputable def zk_99_zs1_99_f03_X9_sumsOf_1 : zC := (0, 7, 0x6000000000500000000040000000002000000000100000000030100000000)
noncomputable def zk_99_zs1_99_f03_X9_sumsOf_2 : zT 1 := @Prod.mk (zT 0) (zT 0) (0, 66, bg_6) (0, 6, 0x10000000001000000000100000000010000000001000000000100000000)
noncomputable def zk_99_zs1_99_f03_X9_sumsOf_3 : zC := (0, 7, 0x100000000010000000001000000000100000000010000000001000000000100000000)
noncomputable def zk_99_zs1_99_f03_X9_sumsOf_4 : zT 3 := @Prod.mk (zT 2) (zT 2) ((zk_99_zs1_99_f03_X9_sumsOf_3, (10, 46656, 76)), ((11, 720, 76), (0, 0, 0))) zO2
noncomputable def h0_X9_sumsOf_205 : zH 4 := (show zT 4 from ((zk_99_zs1_99_f03_X9_sumsOf_0, (((0, 456, bg_79), zk_99_zs1_99_f03_X9_sumsOf_1), zk_99_zs1_99_f03_X9_sumsOf_2)), zk_99_zs1_99_f03_X9_sumsOf_4), (11, (0, 0)))
noncomputable def h1_X9_sumsOf_205 : zH 4 := (show zT 4 from ((zk_99_zs1_99_f03_X9_sumsOf_0, (((0, 456, bg_79), zk_99_zs1_99_f03_X9_sumsOf_1), zk_99_zs1_99_f03_X9_sumsOf_2)), zk_99_zs1_99_f03_X9_sumsOf_4), (11, (0, 0)))
theorem ev_X9_sumsOf_205 : f_X9_sumsOfa [zR 1, zR 2] h0_X9_sumsOf_205 (zrk (zU) h1_X9_sumsOf_205) = true := by decide +kernel
noncomputable def g_X9_sumsOf_205 {d : Nat} : List zV → zH d → zP d → Bool := zsmyM [(0, 0), (0, 1), (1, 21), (1, 20), (1, 22), (1, 33), (1, 3), (1, 31), (1, 32), (1, 26), (1, 27)] [zR 1, zR 2] h0_X9_sumsOf_205 (zU) h1_X9_sumsOf_205
theorem mg_X9_sumsOf_205 {d : Nat} : zMet (d := d) X_X9_sumsOf yX9_sumsOf 17 g_X9_sumsOf_205 := zMet_smM m_X9_sumsOfa ev_X9_sumsOf_205
noncomputable def zk_99_zs1_99_f03_X9_sumsOf_5 : zC := (0, 7, 0x6000000000400000000050000000003000000000200000000010100000000)
noncomputable def h0_X9_sumsOf_206 : zH 4 := (show zT 4 from ((zk_99_zs1_99_f03_X9_sumsOf_0, (((0, 456, bg_79), zk_99_zs1_99_f03_X9_sumsOf_5), zk_99_zs1_99_f03_X9_sumsOf_2)), zk_99_zs1_99_f03_X9_sumsOf_4), (11, (0, 0)))
noncomputable def h1_X9_sumsOf_206 : zH 4 := (show zT 4 from ((zk_99_zs1_99_f03_X9_sumsOf_0, (((0, 456, bg_79), zk_99_zs1_99_f03_X9_sumsOf_5), zk_99_zs1_99_f03_X9_sumsOf_2)), zk_99_zs1_99_f03_X9_sumsOf_4), (11, (0, 0)))
theorem ev_X9_sumsOf_206 : f_X9_sumsOfa [zR 1, zR 2] h0_X9_sumsOf_206 (zrk (zU) h1_X9_sumsOf_206) = true := by decide +kernel
noncomputable def g_X9_sumsOf_206 {d : Nat} : List zV → zH d → zP d → Bool := zsmyM [(0, 0), (0, 1), (1, 21), (1, 20), (1, 22), (1, 33), (1, 3), (1, 31), (1, 32), (1, 26), (1, 27)] [zR 1, zR 2] h0_X9_sumsOf_206 (zU) h1_X9_sumsOf_206
theorem mg_X9_sumsOf_206 {d : Nat} : zMet (d := d) X_X9_sumsOf yX9_sumsOf 17 g_X9_sumsOf_206 := zMet_smM m_X9_sumsOfa ev_X9_sumsOf_206
noncomputable def zk_99_zs1_99_f03_X9_sumsOf_6 : zC := (0, 7, 0x6000000000500000000040000000001000000000300000000020100000000)
noncomputable def h0_X9_sumsOf_207 : zH 4 := (show zT 4 from ((zk_99_zs1_99_f03_X9_sumsOf_0, (((0, 456, bg_79), zk_99_zs1_99_f03_X9_sumsOf_6), zk_99_zs1_99_f03_X9_sumsOf_2)), zk_99_zs1_99_f03_X9_sumsOf_4), (11, (0, 0)))
noncomputable def h1_X9_sumsOf_207 : zH 4 := (show zT 4 from ((zk_99_zs1_99_f03_X9_sumsOf_0, (((0, 456, bg_79), zk_99_zs1_99_f03_X9_sumsOf_6), zk_99_zs1_99_f03_X9_sumsOf_2)), zk_99_zs1_99_f03_X9_sumsOf_4), (11, (0, 0)))
theorem ev_X9_sumsOf_207 : f_X9_sumsOfa [zR 1, zR 2] h0_X9_sumsOf_207 (zrk (zU) h1_X9_sumsOf_207) = true := by decide +kernel
noncomputable def g_X9_sumsOf_207 {d : Nat} : List zV → zH d → zP d → Bool := zsmyM [(0, 0), (0, 1), (1, 21), (1, 20), (1, 22), (1, 33), (1, 3), (1, 31), (1, 32), (1, 26), (1, 27)] [zR 1, zR 2] h0_X9_sumsOf_207 (zU) h1_X9_sumsOf_207
theorem mg_X9_sumsOf_207 {d : Nat} : zMet (d := d) X_X9_sumsOf yX9_sumsOf 17 g_X9_sumsOf_207 := zMet_smM m_X9_sumsOfa ev_X9_sumsOf_207
noncomputable def zk_99_zs1_99_f03_X9_sumsOf_7 : zT 2 := @Prod.mk (zT 1) (zT 1) ((25, 63, bg_180), (0, 12000, zun 40 12000 4294967296)) ((0, 11, bg_181), (0, 11, bg_182))
noncomputable def zk_99_zs1_99_f03_X9_sumsOf_8 : zC := (0, 7, 0x1000000000600000000050000000004000000000300000000020100000000)
noncomputable def zk_99_zs1_99_f03_X9_sumsOf_9 : zT 3 := @Prod.mk (zT 2) (zT 2) ((zk_99_zs1_99_f03_X9_sumsOf_3, (10, 46656, 27)), ((11, 720, 27), (0, 0, 0))) zO2
noncomputable def h0_X9_sumsOf_208 : zH 4 := (show zT 4 from ((zk_99_zs1_99_f03_X9_sumsOf_7, (((0, 456, bg_82), zk_99_zs1_99_f03_X9_sumsOf_8), zk_99_zs1_99_f03_X9_sumsOf_2)), zk_99_zs1_99_f03_X9_sumsOf_9), (11, (0, 0)))
noncomputable def h1_X9_sumsOf_208 : zH 4 := (show zT 4 from ((zk_99_zs1_99_f03_X9_sumsOf_7, (((0, 456, bg_82), zk_99_zs1_99_f03_X9_sumsOf_8), zk_99_zs1_99_f03_X9_sumsOf_2)), zk_99_zs1_99_f03_X9_sumsOf_9), (11, (0, 0)))
theorem ev_X9_sumsOf_208 : f_X9_sumsOfa [zR 1, zR 2] h0_X9_sumsOf_208 (zrk (zU) h1_X9_sumsOf_208) = true := by decide +kernel
noncomputable def g_X9_sumsOf_208 {d : Nat} : List zV → zH d → zP d → Bool := zsmyM [(0, 0), (0, 1), (1, 21), (1, 20), (1, 22), (1, 33), (1, 3), (1, 31), (1, 32), (1, 26), (1, 27)] [zR 1, zR 2] h0_X9_sumsOf_208 (zU) h1_X9_sumsOf_208
theorem mg_X9_sumsOf_208 {d : Nat} : zMet (d := d) X_X9_sumsOf yX9_sumsOf 17 g_X9_sumsOf_208 := zMet_smM m_X9_sumsOfa ev_X9_sumsOf_208
noncomputable def zk_99_zs1_99_f03_X9_sumsOf_10 : zC := (0, 7, 0x2000000000100000000060000000005000000000400000000030100000000)
noncomputable def h0_X9_sumsOf_209 : zH 4 := (show zT 4 from ((zk_99_zs1_99_f03_X9_sumsOf_7, (((0, 456, bg_82), zk_99_zs1_99_f03_X9_sumsOf_10), zk_99_zs1_99_f03_X9_sumsOf_2)), zk_99_zs1_99_f03_X9_sumsOf_9), (11, (0, 0)))
noncomputable def h1_X9_sumsOf_209 : zH 4 := (show zT 4 from ((zk_99_zs1_99_f03_X9_sumsOf_7, (((0, 456, bg_82), zk_99_zs1_99_f03_X9_sumsOf_10), zk_99_zs1_99_f03_X9_sumsOf_2)), zk_99_zs1_99_f03_X9_sumsOf_9), (11, (0, 0)))
theorem ev_X9_sumsOf_209 : f_X9_sumsOfa [zR 1, zR 2] h0_X9_sumsOf_209 (zrk (zU) h1_X9_sumsOf_209) = true := by decide +kernel
noncomputable def g_X9_sumsOf_209 {d : Nat} : List zV → zH d → zP d → Bool := zsmyM [(0, 0), (0, 1), (1, 21), (1, 20), (1, 22), (1, 33), (1, 3), (1, 31), (1, 32), (1, 26), (1, 27)] [zR 1, zR 2] h0_X9_sumsOf_209 (zU) h1_X9_sumsOf_209
theorem mg_X9_sumsOf_209 {d : Nat} : zMet (d := d) X_X9_sumsOf yX9_sumsOf 17 g_X9_sumsOf_209 := zMet_smM m_X9_sumsOfa ev_X9_sumsOf_209
noncomputable def zk_99_zs1_99_f03_X9_sumsOf_11 : zC := (0, 7, 0x3000000000200000000010000000006000000000500000000040100000000)
noncomputable def h0_X9_sumsOf_210 : zH 4 := (show zT 4 from ((zk_99_zs1_99_f03_X9_sumsOf_7, (((0, 456, bg_82), zk_99_zs1_99_f03_X9_sumsOf_11), zk_99_zs1_99_f03_X9_sumsOf_2)), zk_99_zs1_99_f03_X9_sumsOf_9), (11, (0, 0)))
noncomputable def h1_X9_sumsOf_210 : zH 4 := (show zT 4 from ((zk_99_zs1_99_f03_X9_sumsOf_7, (((0, 456, bg_82), zk_99_zs1_99_f03_X9_sumsOf_11), zk_99_zs1_99_f03_X9_sumsOf_2)), zk_99_zs1_99_f03_X9_sumsOf_9), (11, (0, 0)))
theorem ev_X9_sumsOf_210 : f_X9_sumsOfa [zR 1, zR 2] h0_X9_sumsOf_210 (zrk (zU) h1_X9_sumsOf_210) = true := by decide +kernel
noncomputable def g_X9_sumsOf_210 {d : Nat} : List zV → zH d → zP d → Bool := zsmyM [(0, 0), (0, 1), (1, 21), (1, 20), (1, 22), (1, 33), (1, 3), (1, 31), (1, 32), (1, 26), (1, 27)] [zR 1, zR 2] h0_X9_sumsOf_210 (zU) h1_X9_sumsOf_210
theorem mg_X9_sumsOf_210 {d : Nat} : zMet (d := d) X_X9_sumsOf yX9_sumsOf 17 g_X9_sumsOf_210 := zMet_smM m_X9_sumsOfa ev_X9_sumsOf_210
noncomputable def zk_99_zs1_99_f03_X9_sumsOf_12 : zC := (0, 7, 0x4000000000600000000050000000001000000000300000000020100000000)
noncomputable def h0_X9_sumsOf_211 : zH 4 := (show zT 4 from ((zk_99_zs1_99_f03_X9_sumsOf_7, (((0, 456, bg_82), zk_99_zs1_99_f03_X9_sumsOf_12), zk_99_zs1_99_f03_X9_sumsOf_2)), zk_99_zs1_99_f03_X9_sumsOf_9), (11, (0, 0)))
noncomputable def h1_X9_sumsOf_211 : zH 4 := (show zT 4 from ((zk_99_zs1_99_f03_X9_sumsOf_7, (((0, 456, bg_82), zk_99_zs1_99_f03_X9_sumsOf_12), zk_99_zs1_99_f03_X9_sumsOf_2)), zk_99_zs1_99_f03_X9_sumsOf_9), (11, (0, 0)))
theorem ev_X9_sumsOf_211 : f_X9_sumsOfa [zR 1, zR 2] h0_X9_sumsOf_211 (zrk (zU) h1_X9_sumsOf_211) = true := by decide +kernel
noncomputable def g_X9_sumsOf_211 {d : Nat} : List zV → zH d → zP d → Bool := zsmyM [(0, 0), (0, 1), (1, 21), (1, 20), (1, 22), (1, 33), (1, 3), (1, 31), (1, 32), (1, 26), (1, 27)] [zR 1, zR 2] h0_X9_sumsOf_211 (zU) h1_X9_sumsOf_211
theorem mg_X9_sumsOf_211 {d : Nat} : zMet (d := d) X_X9_sumsOf yX9_sumsOf 17 g_X9_sumsOf_211 := zMet_smM m_X9_sumsOfa ev_X9_sumsOf_211
noncomputable def zk_99_zs1_99_f03_X9_sumsOf_13 : zC := (0, 7, 0x6000000000400000000050000000001000000000300000000020100000000)
noncomputable def h0_X9_sumsOf_212 : zH 4 := (show zT 4 from ((zk_99_zs1_99_f03_X9_sumsOf_7, (((0, 456, bg_82), zk_99_zs1_99_f03_X9_sumsOf_13), zk_99_zs1_99_f03_X9_sumsOf_2)), zk_99_zs1_99_f03_X9_sumsOf_9), (11, (0, 0)))
noncomputable def h1_X9_sumsOf_212 : zH 4 := (show zT 4 from ((zk_99_zs1_99_f03_X9_sumsOf_7, (((0, 456, bg_82), zk_99_zs1_99_f03_X9_sumsOf_13), zk_99_zs1_99_f03_X9_sumsOf_2)), zk_99_zs1_99_f03_X9_sumsOf_9), (11, (0, 0)))
theorem ev_X9_sumsOf_212 : f_X9_sumsOfa [zR 1, zR 2] h0_X9_sumsOf_212 (zrk (zU) h1_X9_sumsOf_212) = true := by decide +kernel
noncomputable def g_X9_sumsOf_212 {d : Nat} : List zV → zH d → zP d → Bool := zsmyM [(0, 0), (0, 1), (1, 21), (1, 20), (1, 22), (1, 33), (1, 3), (1, 31), (1, 32), (1, 26), (1, 27)] [zR 1, zR 2] h0_X9_sumsOf_212 (zU) h1_X9_sumsOf_212
theorem mg_X9_sumsOf_212 {d : Nat} : zMet (d := d) X_X9_sumsOf yX9_sumsOf 17 g_X9_sumsOf_212 := zMet_smM m_X9_sumsOfa ev_X9_sumsOf_212
noncomputable def h0_X9_sumsOf_213 : zH 4 := (show zT 4 from ((zk_99_zs1_99_f03_X9_sumsOf_7, (((0, 456, bg_82), zk_99_zs1_99_f03_X9_sumsOf_1), zk_99_zs1_99_f03_X9_sumsOf_2)), zk_99_zs1_99_f03_X9_sumsOf_9), (11, (0, 0)))
noncomputable def h1_X9_sumsOf_213 : zH 4 := (show zT 4 from ((zk_99_zs1_99_f03_X9_sumsOf_7, (((0, 456, bg_82), zk_99_zs1_99_f03_X9_sumsOf_1), zk_99_zs1_99_f03_X9_sumsOf_2)), zk_99_zs1_99_f03_X9_sumsOf_9), (11, (0, 0)))
theorem ev_X9_sumsOf_213 : f_X9_sumsOfa [zR 1, zR 2] h0_X9_sumsOf_213 (zrk (zU) h1_X9_sumsOf_213) = true := by decide +kernel
noncomputable def g_X9_sumsOf_213 {d : Nat} : List zV → zH d → zP d → Bool := zsmyM [(0, 0), (0, 1), (1, 21), (1, 20), (1, 22), (1, 33), (1, 3), (1, 31), (1, 32), (1, 26), (1, 27)] [zR 1, zR 2] h0_X9_sumsOf_213 (zU) h1_X9_sumsOf_213
theorem mg_X9_sumsOf_213 {d : Nat} : zMet (d := d) X_X9_sumsOf yX9_sumsOf 17 g_X9_sumsOf_213 := zMet_smM m_X9_sumsOfa ev_X9_sumsOf_213
noncomputable def h0_X9_sumsOf_214 : zH 4 := (show zT 4 from ((zk_99_zs1_99_f03_X9_sumsOf_7, (((0, 456, bg_82), zk_99_zs1_99_f03_X9_sumsOf_5), zk_99_zs1_99_f03_X9_sumsOf_2)), zk_99_zs1_99_f03_X9_sumsOf_9), (11, (0, 0)))
noncomputable def h1_X9_sumsOf_214 : zH 4 := (show zT 4 from ((zk_99_zs1_99_f03_X9_sumsOf_7, (((0, 456, bg_82), zk_99_zs1_99_f03_X9_sumsOf_5), zk_99_zs1_99_f03_X9_sumsOf_2)), zk_99_zs1_99_f03_X9_sumsOf_9), (11, (0, 0)))
theorem ev_X9_sumsOf_214 : f_X9_sumsOfa [zR 1, zR 2] h0_X9_sumsOf_214 (zrk (zU) h1_X9_sumsOf_214) = true := by decide +kernel
noncomputable def g_X9_sumsOf_214 {d : Nat} : List zV → zH d → zP d → Bool := zsmyM [(0, 0), (0, 1), (1, 21), (1, 20), (1, 22), (1, 33), (1, 3), (1, 31), (1, 32), (1, 26), (1, 27)] [zR 1, zR 2] h0_X9_sumsOf_214 (zU) h1_X9_sumsOf_214
theorem mg_X9_sumsOf_214 {d : Nat} : zMet (d := d) X_X9_sumsOf yX9_sumsOf 17 g_X9_sumsOf_214 := zMet_smM m_X9_sumsOfa ev_X9_sumsOf_214
noncomputable def h0_X9_sumsOf_215 : zH 4 := (show zT 4 from ((zk_99_zs1_99_f03_X9_sumsOf_7, (((0, 456, bg_82), zk_99_zs1_99_f03_X9_sumsOf_6), zk_99_zs1_99_f03_X9_sumsOf_2)), zk_99_zs1_99_f03_X9_sumsOf_9), (11, (0, 0)))
noncomputable def h1_X9_sumsOf_215 : zH 4 := (show zT 4 from ((zk_99_zs1_99_f03_X9_sumsOf_7, (((0, 456, bg_82), zk_99_zs1_99_f03_X9_sumsOf_6), zk_99_zs1_99_f03_X9_sumsOf_2)), zk_99_zs1_99_f03_X9_sumsOf_9), (11, (0, 0)))
theorem ev_X9_sumsOf_215 : f_X9_sumsOfa [zR 1, zR 2] h0_X9_sumsOf_215 (zrk (zU) h1_X9_sumsOf_215) = true := by decide +kernel
noncomputable def g_X9_sumsOf_215 {d : Nat} : List zV → zH d → zP d → Bool := zsmyM [(0, 0), (0, 1), (1, 21), (1, 20), (1, 22), (1, 33), (1, 3), (1, 31), (1, 32), (1, 26), (1, 27)] [zR 1, zR 2] h0_X9_sumsOf_215 (zU) h1_X9_sumsOf_215
theorem mg_X9_sumsOf_215 {d : Nat} : zMet (d := d) X_X9_sumsOf yX9_sumsOf 17 g_X9_sumsOf_215 := zMet_smM m_X9_sumsOfa ev_X9_sumsOf_215
noncomputable def zk_99_zs1_99_f03_X9_sumsOf_14 : zT 2 := @Prod.mk (zT 1) (zT 1) ((25, 63, bg_183), (0, 12000, zun 40 12000 4294967296)) ((0, 11, bg_184), (0, 11, bg_185))
noncomputable def zk_99_zs1_99_f03_X9_sumsOf_15 : zT 3 := @Prod.mk (zT 2) (zT 2) ((zk_99_zs1_99_f03_X9_sumsOf_3, (10, 46656, 83)), ((11, 720, 83), (0, 0, 0))) zO2
noncomputable def h0_X9_sumsOf_216 : zH 4 := (show zT 4 from ((zk_99_zs1_99_f03_X9_sumsOf_14, (((0, 456, bg_85), zk_99_zs1_99_f03_X9_sumsOf_8), zk_99_zs1_99_f03_X9_sumsOf_2)), zk_99_zs1_99_f03_X9_sumsOf_15), (11, (0, 0)))
noncomputable def h1_X9_sumsOf_216 : zH 4 := (show zT 4 from ((zk_99_zs1_99_f03_X9_sumsOf_14, (((0, 456, bg_85), zk_99_zs1_99_f03_X9_sumsOf_8), zk_99_zs1_99_f03_X9_sumsOf_2)), zk_99_zs1_99_f03_X9_sumsOf_15), (11, (0, 0)))
theorem ev_X9_sumsOf_216 : f_X9_sumsOfa [zR 1, zR 2] h0_X9_sumsOf_216 (zrk (zU) h1_X9_sumsOf_216) = true := by decide +kernel
noncomputable def g_X9_sumsOf_216 {d : Nat} : List zV → zH d → zP d → Bool := zsmyM [(0, 0), (0, 1), (1, 21), (1, 20), (1, 22), (1, 33), (1, 3), (1, 31), (1, 32), (1, 26), (1, 27)] [zR 1, zR 2] h0_X9_sumsOf_216 (zU) h1_X9_sumsOf_216
theorem mg_X9_sumsOf_216 {d : Nat} : zMet (d := d) X_X9_sumsOf yX9_sumsOf 17 g_X9_sumsOf_216 := zMet_smM m_X9_sumsOfa ev_X9_sumsOf_216
noncomputable def h0_X9_sumsOf_217 : zH 4 := (show zT 4 from ((zk_99_zs1_99_f03_X9_sumsOf_14, (((0, 456, bg_85), zk_99_zs1_99_f03_X9_sumsOf_10), zk_99_zs1_99_f03_X9_sumsOf_2)), zk_99_zs1_99_f03_X9_sumsOf_15), (11, (0, 0)))
noncomputable def h1_X9_sumsOf_217 : zH 4 := (show zT 4 from ((zk_99_zs1_99_f03_X9_sumsOf_14, (((0, 456, bg_85), zk_99_zs1_99_f03_X9_sumsOf_10), zk_99_zs1_99_f03_X9_sumsOf_2)), zk_99_zs1_99_f03_X9_sumsOf_15), (11, (0, 0)))
theorem ev_X9_sumsOf_217 : f_X9_sumsOfa [zR 1, zR 2] h0_X9_sumsOf_217 (zrk (zU) h1_X9_sumsOf_217) = true := by decide +kernel
noncomputable def g_X9_sumsOf_217 {d : Nat} : List zV → zH d → zP d → Bool := zsmyM [(0, 0), (0, 1), (1, 21), (1, 20), (1, 22), (1, 33), (1, 3), (1, 31), (1, 32), (1, 26), (1, 27)] [zR 1, zR 2] h0_X9_sumsOf_217 (zU) h1_X9_sumsOf_217
theorem mg_X9_sumsOf_217 {d : Nat} : zMet (d := d) X_X9_sumsOf yX9_sumsOf 17 g_X9_sumsOf_217 := zMet_smM m_X9_sumsOfa ev_X9_sumsOf_217
noncomputable def h0_X9_sumsOf_218 : zH 4 := (show zT 4 from ((zk_99_zs1_99_f03_X9_sumsOf_14, (((0, 456, bg_85), zk_99_zs1_99_f03_X9_sumsOf_11), zk_99_zs1_99_f03_X9_sumsOf_2)), zk_99_zs1_99_f03_X9_sumsOf_15), (11, (0, 0)))
noncomputable def h1_X9_sumsOf_218 : zH 4 := (show zT 4 from ((zk_99_zs1_99_f03_X9_sumsOf_14, (((0, 456, bg_85), zk_99_zs1_99_f03_X9_sumsOf_11), zk_99_zs1_99_f03_X9_sumsOf_2)), zk_99_zs1_99_f03_X9_sumsOf_15), (11, (0, 0)))
theorem ev_X9_sumsOf_218 : f_X9_sumsOfa [zR 1, zR 2] h0_X9_sumsOf_218 (zrk (zU) h1_X9_sumsOf_218) = true := by decide +kernel
noncomputable def g_X9_sumsOf_218 {d : Nat} : List zV → zH d → zP d → Bool := zsmyM [(0, 0), (0, 1), (1, 21), (1, 20), (1, 22), (1, 33), (1, 3), (1, 31), (1, 32), (1, 26), (1, 27)] [zR 1, zR 2] h0_X9_sumsOf_218 (zU) h1_X9_sumsOf_218
theorem mg_X9_sumsOf_218 {d : Nat} : zMet (d := d) X_X9_sumsOf yX9_sumsOf 17 g_X9_sumsOf_218 := zMet_smM m_X9_sumsOfa ev_X9_sumsOf_218
noncomputable def h0_X9_sumsOf_219 : zH 4 := (show zT 4 from ((zk_99_zs1_99_f03_X9_sumsOf_14, (((0, 456, bg_85), zk_99_zs1_99_f03_X9_sumsOf_13), zk_99_zs1_99_f03_X9_sumsOf_2)), zk_99_zs1_99_f03_X9_sumsOf_15), (11, (0, 0)))
noncomputable def h1_X9_sumsOf_219 : zH 4 := (show zT 4 from ((zk_99_zs1_99_f03_X9_sumsOf_14, (((0, 456, bg_85), zk_99_zs1_99_f03_X9_sumsOf_13), zk_99_zs1_99_f03_X9_sumsOf_2)), zk_99_zs1_99_f03_X9_sumsOf_15), (11, (0, 0)))
theorem ev_X9_sumsOf_219 : f_X9_sumsOfa [zR 1, zR 2] h0_X9_sumsOf_219 (zrk (zU) h1_X9_sumsOf_219) = true := by decide +kernel
noncomputable def g_X9_sumsOf_219 {d : Nat} : List zV → zH d → zP d → Bool := zsmyM [(0, 0), (0, 1), (1, 21), (1, 20), (1, 22), (1, 33), (1, 3), (1, 31), (1, 32), (1, 26), (1, 27)] [zR 1, zR 2] h0_X9_sumsOf_219 (zU) h1_X9_sumsOf_219
theorem mg_X9_sumsOf_219 {d : Nat} : zMet (d := d) X_X9_sumsOf yX9_sumsOf 17 g_X9_sumsOf_219 := zMet_smM m_X9_sumsOfa ev_X9_sumsOf_219
noncomputable def h0_X9_sumsOf_220 : zH 4 := (show zT 4 from ((zk_99_zs1_99_f03_X9_sumsOf_14, (((0, 456, bg_85), zk_99_zs1_99_f03_X9_sumsOf_1), zk_99_zs1_99_f03_X9_sumsOf_2)), zk_99_zs1_99_f03_X9_sumsOf_15), (11, (0, 0)))
noncomputable def h1_X9_sumsOf_220 : zH 4 := (show zT 4 from ((zk_99_zs1_99_f03_X9_sumsOf_14, (((0, 456, bg_85), zk_99_zs1_99_f03_X9_sumsOf_1), zk_99_zs1_99_f03_X9_sumsOf_2)), zk_99_zs1_99_f03_X9_sumsOf_15), (11, (0, 0)))
theorem ev_X9_sumsOf_220 : f_X9_sumsOfa [zR 1, zR 2] h0_X9_sumsOf_220 (zrk (zU) h1_X9_sumsOf_220) = true := by decide +kernel
noncomputable def g_X9_sumsOf_220 {d : Nat} : List zV → zH d → zP d → Bool := zsmyM [(0, 0), (0, 1), (1, 21), (1, 20), (1, 22), (1, 33), (1, 3), (1, 31), (1, 32), (1, 26), (1, 27)] [zR 1, zR 2] h0_X9_sumsOf_220 (zU) h1_X9_sumsOf_220
theorem mg_X9_sumsOf_220 {d : Nat} : zMet (d := d) X_X9_sumsOf yX9_sumsOf 17 g_X9_sumsOf_220 := zMet_smM m_X9_sumsOfa ev_X9_sumsOf_220
noncomputable def h0_X9_sumsOf_221 : zH 4 := (show zT 4 from ((zk_99_zs1_99_f03_X9_sumsOf_14, (((0, 456, bg_85), zk_99_zs1_99_f03_X9_sumsOf_5), zk_99_zs1_99_f03_X9_sumsOf_2)), zk_99_zs1_99_f03_X9_sumsOf_15), (11, (0, 0)))
noncomputable def h1_X9_sumsOf_221 : zH 4 := (show zT 4 from ((zk_99_zs1_99_f03_X9_sumsOf_14, (((0, 456, bg_85), zk_99_zs1_99_f03_X9_sumsOf_5), zk_99_zs1_99_f03_X9_sumsOf_2)), zk_99_zs1_99_f03_X9_sumsOf_15), (11, (0, 0)))
theorem ev_X9_sumsOf_221 : f_X9_sumsOfa [zR 1, zR 2] h0_X9_sumsOf_221 (zrk (zU) h1_X9_sumsOf_221) = true := by decide +kernel
noncomputable def g_X9_sumsOf_221 {d : Nat} : List zV → zH d → zP d → Bool := zsmyM [(0, 0), (0, 1), (1, 21), (1, 20), (1, 22), (1, 33), (1, 3), (1, 31), (1, 32), (1, 26), (1, 27)] [zR 1, zR 2] h0_X9_sumsOf_221 (zU) h1_X9_sumsOf_221
theorem mg_X9_sumsOf_221 {d : Nat} : zMet (d := d) X_X9_sumsOf yX9_sumsOf 17 g_X9_sumsOf_221 := zMet_smM m_X9_sumsOfa ev_X9_sumsOf_221
noncomputable def zk_99_zs1_99_f03_X9_sumsOf_16 : zT 2 := @Prod.mk (zT 1) (zT 1) ((25, 63, bg_186), (0, 12000, zun 40 12000 4294967296)) ((0, 11, bg_187), (0, 11, bg_188))
noncomputable def zk_99_zs1_99_f03_X9_sumsOf_17 : zT 3 := @Prod.mk (zT 2) (zT 2) ((zk_99_zs1_99_f03_X9_sumsOf_3, (10, 46656, 587)), ((11, 720, 587), (0, 0, 0))) zO2
noncomputable def h0_X9_sumsOf_222 : zH 4 := (show zT 4 from ((zk_99_zs1_99_f03_X9_sumsOf_16, (((0, 456, bg_88), zk_99_zs1_99_f03_X9_sumsOf_8), zk_99_zs1_99_f03_X9_sumsOf_2)), zk_99_zs1_99_f03_X9_sumsOf_17), (11, (0, 0)))
noncomputable def h1_X9_sumsOf_222 : zH 4 := (show zT 4 from ((zk_99_zs1_99_f03_X9_sumsOf_16, (((0, 456, bg_88), zk_99_zs1_99_f03_X9_sumsOf_8), zk_99_zs1_99_f03_X9_sumsOf_2)), zk_99_zs1_99_f03_X9_sumsOf_17), (11, (0, 0)))
theorem ev_X9_sumsOf_222 : f_X9_sumsOfa [zR 1, zR 2] h0_X9_sumsOf_222 (zrk (zU) h1_X9_sumsOf_222) = true := by decide +kernel
noncomputable def g_X9_sumsOf_222 {d : Nat} : List zV → zH d → zP d → Bool := zsmyM [(0, 0), (0, 1), (1, 21), (1, 20), (1, 22), (1, 33), (1, 3), (1, 31), (1, 32), (1, 26), (1, 27)] [zR 1, zR 2] h0_X9_sumsOf_222 (zU) h1_X9_sumsOf_222
theorem mg_X9_sumsOf_222 {d : Nat} : zMet (d := d) X_X9_sumsOf yX9_sumsOf 17 g_X9_sumsOf_222 := zMet_smM m_X9_sumsOfa ev_X9_sumsOf_222
noncomputable def h0_X9_sumsOf_223 : zH 4 := (show zT 4 from ((zk_99_zs1_99_f03_X9_sumsOf_16, (((0, 456, bg_88), zk_99_zs1_99_f03_X9_sumsOf_10), zk_99_zs1_99_f03_X9_sumsOf_2)), zk_99_zs1_99_f03_X9_sumsOf_17), (11, (0, 0)))
noncomputable def h1_X9_sumsOf_223 : zH 4 := (show zT 4 from ((zk_99_zs1_99_f03_X9_sumsOf_16, (((0, 456, bg_88), zk_99_zs1_99_f03_X9_sumsOf_10), zk_99_zs1_99_f03_X9_sumsOf_2)), zk_99_zs1_99_f03_X9_sumsOf_17), (11, (0, 0)))
theorem ev_X9_sumsOf_223 : f_X9_sumsOfa [zR 1, zR 2] h0_X9_sumsOf_223 (zrk (zU) h1_X9_sumsOf_223) = true := by decide +kernel
noncomputable def g_X9_sumsOf_223 {d : Nat} : List zV → zH d → zP d → Bool := zsmyM [(0, 0), (0, 1), (1, 21), (1, 20), (1, 22), (1, 33), (1, 3), (1, 31), (1, 32), (1, 26), (1, 27)] [zR 1, zR 2] h0_X9_sumsOf_223 (zU) h1_X9_sumsOf_223
theorem mg_X9_sumsOf_223 {d : Nat} : zMet (d := d) X_X9_sumsOf yX9_sumsOf 17 g_X9_sumsOf_223 := zMet_smM m_X9_sumsOfa ev_X9_sumsOf_223
noncomputable def h0_X9_sumsOf_224 : zH 4 := (show zT 4 from ((zk_99_zs1_99_f03_X9_sumsOf_16, (((0, 456, bg_88), zk_99_zs1_99_f03_X9_sumsOf_11), zk_99_zs1_99_f03_X9_sumsOf_2)), zk_99_zs1_99_f03_X9_sumsOf_17), (11, (0, 0)))
noncomputable def h1_X9_sumsOf_224 : zH 4 := (show zT 4 from ((zk_99_zs1_99_f03_X9_sumsOf_16, (((0, 456, bg_88), zk_99_zs1_99_f03_X9_sumsOf_11), zk_99_zs1_99_f03_X9_sumsOf_2)), zk_99_zs1_99_f03_X9_sumsOf_17), (11, (0, 0)))
theorem ev_X9_sumsOf_224 : f_X9_sumsOfa [zR 1, zR 2] h0_X9_sumsOf_224 (zrk (zU) h1_X9_sumsOf_224) = true := by decide +kernel
noncomputable def g_X9_sumsOf_224 {d : Nat} : List zV → zH d → zP d → Bool := zsmyM [(0, 0), (0, 1), (1, 21), (1, 20), (1, 22), (1, 33), (1, 3), (1, 31), (1, 32), (1, 26), (1, 27)] [zR 1, zR 2] h0_X9_sumsOf_224 (zU) h1_X9_sumsOf_224
theorem mg_X9_sumsOf_224 {d : Nat} : zMet (d := d) X_X9_sumsOf yX9_sumsOf 17 g_X9_sumsOf_224 := zMet_smM m_X9_sumsOfa ev_X9_sumsOf_224
noncomputable def h0_X9_sumsOf_225 : zH 4 := (show zT 4 from ((zk_99_zs1_99_f03_X9_sumsOf_16, (((0, 456, bg_88), (0, 7, 0x5000000000600000000010000000004000000000300000000020100000000)), zk_99_zs1_99_f03_X9_sumsOf_2)), zk_99_zs1_99_f03_X9_sumsOf_17), (11, (0, 0)))
noncomputable def h1_X9_sumsOf_225 : zH 4 := (show zT 4 from ((zk_99_zs1_99_f03_X9_sumsOf_16, (((0, 456, bg_88), (0, 7, 0x5000000000600000000010000000004000000000300000000020100000000)), zk_99_zs1_99_f03_X9_sumsOf_2)), zk_99_zs1_99_f03_X9_sumsOf_17), (11, (0, 0)))
theorem ev_X9_sumsOf_225 : f_X9_sumsOfa [zR 1, zR 2] h0_X9_sumsOf_225 (zrk (zU) h1_X9_sumsOf_225) = true := by decide +kernel
noncomputable def g_X9_sumsOf_225 {d : Nat} : List zV → zH d → zP d → Bool := zsmyM [(0, 0), (0, 1), (1, 21), (1, 20), (1, 22), (1, 33), (1, 3), (1, 31), (1, 32), (1, 26), (1, 27)] [zR 1, zR 2] h0_X9_sumsOf_225 (zU) h1_X9_sumsOf_225
theorem mg_X9_sumsOf_225 {d : Nat} : zMet (d := d) X_X9_sumsOf yX9_sumsOf 17 g_X9_sumsOf_225 := zMet_smM m_X9_sumsOfa ev_X9_sumsOf_225
noncomputable def h0_X9_sumsOf_226 : zH 4 := (show zT 4 from ((zk_99_zs1_99_f03_X9_sumsOf_16, (((0, 456, bg_88), (0, 7, 0x6000000000500000000020000000001000000000400000000030100000000)), zk_99_zs1_99_f03_X9_sumsOf_2)), zk_99_zs1_99_f03_X9_sumsOf_17), (11, (0, 0)))
noncomputable def h1_X9_sumsOf_226 : zH 4 := (show zT 4 from ((zk_99_zs1_99_f03_X9_sumsOf_16, (((0, 456, bg_88), (0, 7, 0x6000000000500000000020000000001000000000400000000030100000000)), zk_99_zs1_99_f03_X9_sumsOf_2)), zk_99_zs1_99_f03_X9_sumsOf_17), (11, (0, 0)))
theorem ev_X9_sumsOf_226 : f_X9_sumsOfa [zR 1, zR 2] h0_X9_sumsOf_226 (zrk (zU) h1_X9_sumsOf_226) = true := by decide +kernel
noncomputable def g_X9_sumsOf_226 {d : Nat} : List zV → zH d → zP d → Bool := zsmyM [(0, 0), (0, 1), (1, 21), (1, 20), (1, 22), (1, 33), (1, 3), (1, 31), (1, 32), (1, 26), (1, 27)] [zR 1, zR 2] h0_X9_sumsOf_226 (zU) h1_X9_sumsOf_226
theorem mg_X9_sumsOf_226 {d : Nat} : zMet (d := d) X_X9_sumsOf yX9_sumsOf 17 g_X9_sumsOf_226 := zMet_smM m_X9_sumsOfa ev_X9_sumsOf_226
noncomputable def h0_X9_sumsOf_227 : zH 4 := (show zT 4 from ((zk_99_zs1_99_f03_X9_sumsOf_16, (((0, 456, bg_88), (0, 7, 0x6000000000500000000010000000004000000000300000000020100000000)), zk_99_zs1_99_f03_X9_sumsOf_2)), zk_99_zs1_99_f03_X9_sumsOf_17), (11, (0, 0)))
noncomputable def h1_X9_sumsOf_227 : zH 4 := (show zT 4 from ((zk_99_zs1_99_f03_X9_sumsOf_16, (((0, 456, bg_88), (0, 7, 0x6000000000500000000010000000004000000000300000000020100000000)), zk_99_zs1_99_f03_X9_sumsOf_2)), zk_99_zs1_99_f03_X9_sumsOf_17), (11, (0, 0)))
theorem ev_X9_sumsOf_227 : f_X9_sumsOfa [zR 1, zR 2] h0_X9_sumsOf_227 (zrk (zU) h1_X9_sumsOf_227) = true := by decide +kernel
noncomputable def g_X9_sumsOf_227 {d : Nat} : List zV → zH d → zP d → Bool := zsmyM [(0, 0), (0, 1), (1, 21), (1, 20), (1, 22), (1, 33), (1, 3), (1, 31), (1, 32), (1, 26), (1, 27)] [zR 1, zR 2] h0_X9_sumsOf_227 (zU) h1_X9_sumsOf_227
theorem mg_X9_sumsOf_227 {d : Nat} : zMet (d := d) X_X9_sumsOf yX9_sumsOf 17 g_X9_sumsOf_227 := zMet_smM m_X9_sumsOfa ev_X9_sumsOf_227
noncomputable def h0_X9_sumsOf_228 : zH 4 := (show zT 4 from ((zk_99_zs1_99_f03_X9_sumsOf_16, (((0, 456, bg_88), zk_99_zs1_99_f03_X9_sumsOf_12), zk_99_zs1_99_f03_X9_sumsOf_2)), zk_99_zs1_99_f03_X9_sumsOf_17), (11, (0, 0)))
noncomputable def h1_X9_sumsOf_228 : zH 4 := (show zT 4 from ((zk_99_zs1_99_f03_X9_sumsOf_16, (((0, 456, bg_88), zk_99_zs1_99_f03_X9_sumsOf_12), zk_99_zs1_99_f03_X9_sumsOf_2)), zk_99_zs1_99_f03_X9_sumsOf_17), (11, (0, 0)))
theorem ev_X9_sumsOf_228 : f_X9_sumsOfa [zR 1, zR 2] h0_X9_sumsOf_228 (zrk (zU) h1_X9_sumsOf_228) = true := by decide +kernel
noncomputable def g_X9_sumsOf_228 {d : Nat} : List zV → zH d → zP d → Bool := zsmyM [(0, 0), (0, 1), (1, 21), (1, 20), (1, 22), (1, 33), (1, 3), (1, 31), (1, 32), (1, 26), (1, 27)] [zR 1, zR 2] h0_X9_sumsOf_228 (zU) h1_X9_sumsOf_228
theorem mg_X9_sumsOf_228 {d : Nat} : zMet (d := d) X_X9_sumsOf yX9_sumsOf 17 g_X9_sumsOf_228 := zMet_smM m_X9_sumsOfa ev_X9_sumsOf_228
noncomputable def h0_X9_sumsOf_229 : zH 4 := (show zT 4 from ((zk_99_zs1_99_f03_X9_sumsOf_16, (((0, 456, bg_88), zk_99_zs1_99_f03_X9_sumsOf_13), zk_99_zs1_99_f03_X9_sumsOf_2)), zk_99_zs1_99_f03_X9_sumsOf_17), (11, (0, 0)))
noncomputable def h1_X9_sumsOf_229 : zH 4 := (show zT 4 from ((zk_99_zs1_99_f03_X9_sumsOf_16, (((0, 456, bg_88), zk_99_zs1_99_f03_X9_sumsOf_13), zk_99_zs1_99_f03_X9_sumsOf_2)), zk_99_zs1_99_f03_X9_sumsOf_17), (11, (0, 0)))
theorem ev_X9_sumsOf_229 : f_X9_sumsOfa [zR 1, zR 2] h0_X9_sumsOf_229 (zrk (zU) h1_X9_sumsOf_229) = true := by decide +kernel
noncomputable def g_X9_sumsOf_229 {d : Nat} : List zV → zH d → zP d → Bool := zsmyM [(0, 0), (0, 1), (1, 21), (1, 20), (1, 22), (1, 33), (1, 3), (1, 31), (1, 32), (1, 26), (1, 27)] [zR 1, zR 2] h0_X9_sumsOf_229 (zU) h1_X9_sumsOf_229
theorem mg_X9_sumsOf_229 {d : Nat} : zMet (d := d) X_X9_sumsOf yX9_sumsOf 17 g_X9_sumsOf_229 := zMet_smM m_X9_sumsOfa ev_X9_sumsOf_229
noncomputable def h0_X9_sumsOf_230 : zH 4 := (show zT 4 from ((zk_99_zs1_99_f03_X9_sumsOf_16, (((0, 456, bg_88), zk_99_zs1_99_f03_X9_sumsOf_1), zk_99_zs1_99_f03_X9_sumsOf_2)), zk_99_zs1_99_f03_X9_sumsOf_17), (11, (0, 0)))
noncomputable def h1_X9_sumsOf_230 : zH 4 := (show zT 4 from ((zk_99_zs1_99_f03_X9_sumsOf_16, (((0, 456, bg_88), zk_99_zs1_99_f03_X9_sumsOf_1), zk_99_zs1_99_f03_X9_sumsOf_2)), zk_99_zs1_99_f03_X9_sumsOf_17), (11, (0, 0)))
theorem ev_X9_sumsOf_230 : f_X9_sumsOfa [zR 1, zR 2] h0_X9_sumsOf_230 (zrk (zU) h1_X9_sumsOf_230) = true := by decide +kernel
noncomputable def g_X9_sumsOf_230 {d : Nat} : List zV → zH d → zP d → Bool := zsmyM [(0, 0), (0, 1), (1, 21), (1, 20), (1, 22), (1, 33), (1, 3), (1, 31), (1, 32), (1, 26), (1, 27)] [zR 1, zR 2] h0_X9_sumsOf_230 (zU) h1_X9_sumsOf_230
theorem mg_X9_sumsOf_230 {d : Nat} : zMet (d := d) X_X9_sumsOf yX9_sumsOf 17 g_X9_sumsOf_230 := zMet_smM m_X9_sumsOfa ev_X9_sumsOf_230
noncomputable def h0_X9_sumsOf_231 : zH 4 := (show zT 4 from ((zk_99_zs1_99_f03_X9_sumsOf_16, (((0, 456, bg_88), zk_99_zs1_99_f03_X9_sumsOf_5), zk_99_zs1_99_f03_X9_sumsOf_2)), zk_99_zs1_99_f03_X9_sumsOf_17), (11, (0, 0)))
noncomputable def h1_X9_sumsOf_231 : zH 4 := (show zT 4 from ((zk_99_zs1_99_f03_X9_sumsOf_16, (((0, 456, bg_88), zk_99_zs1_99_f03_X9_sumsOf_5), zk_99_zs1_99_f03_X9_sumsOf_2)), zk_99_zs1_99_f03_X9_sumsOf_17), (11, (0, 0)))
theorem ev_X9_sumsOf_231 : f_X9_sumsOfa [zR 1, zR 2] h0_X9_sumsOf_231 (zrk (zU) h1_X9_sumsOf_231) = true := by decide +kernel
noncomputable def g_X9_sumsOf_231 {d : Nat} : List zV → zH d → zP d → Bool := zsmyM [(0, 0), (0, 1), (1, 21), (1, 20), (1, 22), (1, 33), (1, 3), (1, 31), (1, 32), (1, 26), (1, 27)] [zR 1, zR 2] h0_X9_sumsOf_231 (zU) h1_X9_sumsOf_231
theorem mg_X9_sumsOf_231 {d : Nat} : zMet (d := d) X_X9_sumsOf yX9_sumsOf 17 g_X9_sumsOf_231 := zMet_smM m_X9_sumsOfa ev_X9_sumsOf_231
noncomputable def h0_X9_sumsOf_232 : zH 4 := (show zT 4 from ((zk_99_zs1_99_f03_X9_sumsOf_16, (((0, 456, bg_88), zk_99_zs1_99_f03_X9_sumsOf_6), zk_99_zs1_99_f03_X9_sumsOf_2)), zk_99_zs1_99_f03_X9_sumsOf_17), (11, (0, 0)))
noncomputable def h1_X9_sumsOf_232 : zH 4 := (show zT 4 from ((zk_99_zs1_99_f03_X9_sumsOf_16, (((0, 456, bg_88), zk_99_zs1_99_f03_X9_sumsOf_6), zk_99_zs1_99_f03_X9_sumsOf_2)), zk_99_zs1_99_f03_X9_sumsOf_17), (11, (0, 0)))
theorem ev_X9_sumsOf_232 : f_X9_sumsOfa [zR 1, zR 2] h0_X9_sumsOf_232 (zrk (zU) h1_X9_sumsOf_232) = true := by decide +kernel
noncomputable def g_X9_sumsOf_232 {d : Nat} : List zV → zH d → zP d → Bool := zsmyM [(0, 0), (0, 1), (1, 21), (1, 20), (1, 22), (1, 33), (1, 3), (1, 31), (1, 32), (1, 26), (1, 27)] [zR 1, zR 2] h0_X9_sumsOf_232 (zU) h1_X9_sumsOf_232
theorem mg_X9_sumsOf_232 {d : Nat} : zMet (d := d) X_X9_sumsOf yX9_sumsOf 17 g_X9_sumsOf_232 := zMet_smM m_X9_sumsOfa ev_X9_sumsOf_232
noncomputable def h0_X9_sumsOf_233 : zH 4 := (show zT 4 from ((zk_99_zs1_99_f03_X9_sumsOf_16, (((0, 456, bg_88), (0, 7, 0x5000000000600000000030000000004000000000100000000020100000000)), zk_99_zs1_99_f03_X9_sumsOf_2)), zk_99_zs1_99_f03_X9_sumsOf_17), (11, (0, 0)))
noncomputable def h1_X9_sumsOf_233 : zH 4 := (show zT 4 from ((zk_99_zs1_99_f03_X9_sumsOf_16, (((0, 456, bg_88), (0, 7, 0x5000000000600000000030000000004000000000100000000020100000000)), zk_99_zs1_99_f03_X9_sumsOf_2)), zk_99_zs1_99_f03_X9_sumsOf_17), (11, (0, 0)))
theorem ev_X9_sumsOf_233 : f_X9_sumsOfa [zR 1, zR 2] h0_X9_sumsOf_233 (zrk (zU) h1_X9_sumsOf_233) = true := by decide +kernel
noncomputable def g_X9_sumsOf_233 {d : Nat} : List zV → zH d → zP d → Bool := zsmyM [(0, 0), (0, 1), (1, 21), (1, 20), (1, 22), (1, 33), (1, 3), (1, 31), (1, 32), (1, 26), (1, 27)] [zR 1, zR 2] h0_X9_sumsOf_233 (zU) h1_X9_sumsOf_233
theorem mg_X9_sumsOf_233 {d : Nat} : zMet (d := d) X_X9_sumsOf yX9_sumsOf 17 g_X9_sumsOf_233 := zMet_smM m_X9_sumsOfa ev_X9_sumsOf_233
noncomputable def h0_X9_sumsOf_234 : zH 4 := (show zT 4 from ((zk_99_zs1_99_f03_X9_sumsOf_16, (((0, 456, bg_88), (0, 7, 0x6000000000500000000030000000004000000000100000000020100000000)), zk_99_zs1_99_f03_X9_sumsOf_2)), zk_99_zs1_99_f03_X9_sumsOf_17), (11, (0, 0)))
noncomputable def h1_X9_sumsOf_234 : zH 4 := (show zT 4 from ((zk_99_zs1_99_f03_X9_sumsOf_16, (((0, 456, bg_88), (0, 7, 0x6000000000500000000030000000004000000000100000000020100000000)), zk_99_zs1_99_f03_X9_sumsOf_2)), zk_99_zs1_99_f03_X9_sumsOf_17), (11, (0, 0)))
theorem ev_X9_sumsOf_234 : f_X9_sumsOfa [zR 1, zR 2] h0_X9_sumsOf_234 (zrk (zU) h1_X9_sumsOf_234) = true := by decide +kernel
noncomputable def g_X9_sumsOf_234 {d : Nat} : List zV → zH d → zP d → Bool := zsmyM [(0, 0), (0, 1), (1, 21), (1, 20), (1, 22), (1, 33), (1, 3), (1, 31), (1, 32), (1, 26), (1, 27)] [zR 1, zR 2] h0_X9_sumsOf_234 (zU) h1_X9_sumsOf_234
theorem mg_X9_sumsOf_234 {d : Nat} : zMet (d := d) X_X9_sumsOf yX9_sumsOf 17 g_X9_sumsOf_234 := zMet_smM m_X9_sumsOfa ev_X9_sumsOf_234
noncomputable def h0_X9_sumsOf_235 : zH 4 := (show zT 4 from ((zk_99_zs1_99_f03_X9_sumsOf_16, (((0, 456, bg_88), (0, 7, 0x6000000000500000000040000000003000000000100000000020100000000)), zk_99_zs1_99_f03_X9_sumsOf_2)), zk_99_zs1_99_f03_X9_sumsOf_17), (11, (0, 0)))
noncomputable def h1_X9_sumsOf_235 : zH 4 := (show zT 4 from ((zk_99_zs1_99_f03_X9_sumsOf_16, (((0, 456, bg_88), (0, 7, 0x6000000000500000000040000000003000000000100000000020100000000)), zk_99_zs1_99_f03_X9_sumsOf_2)), zk_99_zs1_99_f03_X9_sumsOf_17), (11, (0, 0)))
theorem ev_X9_sumsOf_235 : f_X9_sumsOfa [zR 1, zR 2] h0_X9_sumsOf_235 (zrk (zU) h1_X9_sumsOf_235) = true := by decide +kernel
noncomputable def g_X9_sumsOf_235 {d : Nat} : List zV → zH d → zP d → Bool := zsmyM [(0, 0), (0, 1), (1, 21), (1, 20), (1, 22), (1, 33), (1, 3), (1, 31), (1, 32), (1, 26), (1, 27)] [zR 1, zR 2] h0_X9_sumsOf_235 (zU) h1_X9_sumsOf_235
theorem mg_X9_sumsOf_235 {d : Nat} : zMet (d := d) X_X9_sumsOf yX9_sumsOf 17 g_X9_sumsOf_235 := zMet_smM m_X9_sumsOfa ev_X9_sumsOf_235
noncomputable def zk_99_zs1_99_f03_X9_sumsOf_18 : zT 2 := @Prod.mk (zT 1) (zT 1) ((25, 63, bg_189), (0, 12000, zun 40 12000 4294967296)) ((0, 11, bg_190), (0, 11, bg_191))
noncomputable def zk_99_zs1_99_f03_X9_sumsOf_19 : zT 3 := @Prod.mk (zT 2) (zT 2) ((zk_99_zs1_99_f03_X9_sumsOf_3, (10, 46656, 146)), ((11, 720, 146), (0, 0, 0))) zO2
noncomputable def h0_X9_sumsOf_236 : zH 4 := (show zT 4 from ((zk_99_zs1_99_f03_X9_sumsOf_18, (((0, 456, bg_91), zk_99_zs1_99_f03_X9_sumsOf_8), zk_99_zs1_99_f03_X9_sumsOf_2)), zk_99_zs1_99_f03_X9_sumsOf_19), (11, (0, 0)))
noncomputable def h1_X9_sumsOf_236 : zH 4 := (show zT 4 from ((zk_99_zs1_99_f03_X9_sumsOf_18, (((0, 456, bg_91), zk_99_zs1_99_f03_X9_sumsOf_8), zk_99_zs1_99_f03_X9_sumsOf_2)), zk_99_zs1_99_f03_X9_sumsOf_19), (11, (0, 0)))
theorem ev_X9_sumsOf_236 : f_X9_sumsOfa [zR 1, zR 2] h0_X9_sumsOf_236 (zrk (zU) h1_X9_sumsOf_236) = true := by decide +kernel
noncomputable def g_X9_sumsOf_236 {d : Nat} : List zV → zH d → zP d → Bool := zsmyM [(0, 0), (0, 1), (1, 21), (1, 20), (1, 22), (1, 33), (1, 3), (1, 31), (1, 32), (1, 26), (1, 27)] [zR 1, zR 2] h0_X9_sumsOf_236 (zU) h1_X9_sumsOf_236
theorem mg_X9_sumsOf_236 {d : Nat} : zMet (d := d) X_X9_sumsOf yX9_sumsOf 17 g_X9_sumsOf_236 := zMet_smM m_X9_sumsOfa ev_X9_sumsOf_236
noncomputable def h0_X9_sumsOf_237 : zH 4 := (show zT 4 from ((zk_99_zs1_99_f03_X9_sumsOf_18, (((0, 456, bg_91), zk_99_zs1_99_f03_X9_sumsOf_10), zk_99_zs1_99_f03_X9_sumsOf_2)), zk_99_zs1_99_f03_X9_sumsOf_19), (11, (0, 0)))
noncomputable def h1_X9_sumsOf_237 : zH 4 := (show zT 4 from ((zk_99_zs1_99_f03_X9_sumsOf_18, (((0, 456, bg_91), zk_99_zs1_99_f03_X9_sumsOf_10), zk_99_zs1_99_f03_X9_sumsOf_2)), zk_99_zs1_99_f03_X9_sumsOf_19), (11, (0, 0)))
theorem ev_X9_sumsOf_237 : f_X9_sumsOfa [zR 1, zR 2] h0_X9_sumsOf_237 (zrk (zU) h1_X9_sumsOf_237) = true := by decide +kernel
noncomputable def g_X9_sumsOf_237 {d : Nat} : List zV → zH d → zP d → Bool := zsmyM [(0, 0), (0, 1), (1, 21), (1, 20), (1, 22), (1, 33), (1, 3), (1, 31), (1, 32), (1, 26), (1, 27)] [zR 1, zR 2] h0_X9_sumsOf_237 (zU) h1_X9_sumsOf_237
theorem mg_X9_sumsOf_237 {d : Nat} : zMet (d := d) X_X9_sumsOf yX9_sumsOf 17 g_X9_sumsOf_237 := zMet_smM m_X9_sumsOfa ev_X9_sumsOf_237
end
