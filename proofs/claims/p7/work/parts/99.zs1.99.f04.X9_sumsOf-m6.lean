section
/-! the reference by summaries, by program -/
noncomputable def zk_99_zs1_99_f04_X9_sumsOf_0 : zT 2 := @Prod.mk (zT 1) (zT 1) ((25, 63, bg_189), (0, 12000, zun 40 12000 4294967296)) ((0, 11, bg_190), (0, 11, bg_191))
noncomputable def zk_99_zs1_99_f04_X9_sumsOf_1 : zC := (0, 7, 0x3000000000200000000010000000006000000000500000000040100000000)
noncomputable def zk_99_zs1_99_f04_X9_sumsOf_2 : zT 1 := @Prod.mk (zT 0) (zT 0) (0, 66, bg_6) (0, 6, 0x10000000001000000000100000000010000000001000000000100000000)
noncomputable def zk_99_zs1_99_f04_X9_sumsOf_3 : zC := (0, 7, 0x100000000010000000001000000000100000000010000000001000000000100000000)
noncomputable def zk_99_zs1_99_f04_X9_sumsOf_4 : zT 3 := @Prod.mk (zT 2) (zT 2) ((zk_99_zs1_99_f04_X9_sumsOf_3, (10, 46656, 146)), ((11, 720, 146), (0, 0, 0))) zO2
noncomputable def h0_X9_sumsOf_238 : zH 4 := (show zT 4 from ((zk_99_zs1_99_f04_X9_sumsOf_0, (((0, 456, bg_91), zk_99_zs1_99_f04_X9_sumsOf_1), zk_99_zs1_99_f04_X9_sumsOf_2)), zk_99_zs1_99_f04_X9_sumsOf_4), (11, (0, 0)))
noncomputable def h1_X9_sumsOf_238 : zH 4 := (show zT 4 from ((zk_99_zs1_99_f04_X9_sumsOf_0, (((0, 456, bg_91), zk_99_zs1_99_f04_X9_sumsOf_1), zk_99_zs1_99_f04_X9_sumsOf_2)), zk_99_zs1_99_f04_X9_sumsOf_4), (11, (0, 0)))
theorem ev_X9_sumsOf_238 : f_X9_sumsOfa [zR 1, zR 2] h0_X9_sumsOf_238 (zrk (zU) h1_X9_sumsOf_238) = true := by decide +kernel
noncomputable def g_X9_sumsOf_238 {d : Nat} : List zV → zH d → zP d → Bool := zsmyM [(0, 0), (0, 1), (1, 21), (1, 20), (1, 22), (1, 33), (1, 3), (1, 31), (1, 32), (1, 26), (1, 27)] [zR 1, zR 2] h0_X9_sumsOf_238 (zU) h1_X9_sumsOf_238
theorem mg_X9_sumsOf_238 {d : Nat} : zMet (d := d) X_X9_sumsOf yX9_sumsOf 17 g_X9_sumsOf_238 := zMet_smM m_X9_sumsOfa ev_X9_sumsOf_238
noncomputable def zk_99_zs1_99_f04_X9_sumsOf_5 : zC := (0, 7, 0x5000000000600000000010000000004000000000300000000020100000000)
noncomputable def h0_X9_sumsOf_239 : zH 4 := (show zT 4 from ((zk_99_zs1_99_f04_X9_sumsOf_0, (((0, 456, bg_91), zk_99_zs1_99_f04_X9_sumsOf_5), zk_99_zs1_99_f04_X9_sumsOf_2)), zk_99_zs1_99_f04_X9_sumsOf_4), (11, (0, 0)))
noncomputable def h1_X9_sumsOf_239 : zH 4 := (show zT 4 from ((zk_99_zs1_99_f04_X9_sumsOf_0, (((0, 456, bg_91), zk_99_zs1_99_f04_X9_sumsOf_5), zk_99_zs1_99_f04_X9_sumsOf_2)), zk_99_zs1_99_f04_X9_sumsOf_4), (11, (0, 0)))
theorem ev_X9_sumsOf_239 : f_X9_sumsOfa [zR 1, zR 2] h0_X9_sumsOf_239 (zrk (zU) h1_X9_sumsOf_239) = true := by decide +kernel
noncomputable def g_X9_sumsOf_239 {d : Nat} : List zV → zH d → zP d → Bool := zsmyM [(0, 0), (0, 1), (1, 21), (1, 20), (1, 22), (1, 33), (1, 3), (1, 31), (1, 32), (1, 26), (1, 27)] [zR 1, zR 2] h0_X9_sumsOf_239 (zU) h1_X9_sumsOf_239
theorem mg_X9_sumsOf_239 {d : Nat} : zMet (d := d) X_X9_sumsOf yX9_sumsOf 17 g_X9_sumsOf_239 := zMet_smM m_X9_sumsOfa ev_X9_sumsOf_239
noncomputable def zk_99_zs1_99_f04_X9_sumsOf_6 : zC := (0, 7, 0x6000000000500000000020000000001000000000400000000030100000000)
noncomputable def h0_X9_sumsOf_240 : zH 4 := (show zT 4 from ((zk_99_zs1_99_f04_X9_sumsOf_0, (((0, 456, bg_91), zk_99_zs1_99_f04_X9_sumsOf_6), zk_99_zs1_99_f04_X9_sumsOf_2)), zk_99_zs1_99_f04_X9_sumsOf_4), (11, (0, 0)))
noncomputable def h1_X9_sumsOf_240 : zH 4 := (show zT 4 from ((zk_99_zs1_99_f04_X9_sumsOf_0, (((0, 456, bg_91), zk_99_zs1_99_f04_X9_sumsOf_6), zk_99_zs1_99_f04_X9_sumsOf_2)), zk_99_zs1_99_f04_X9_sumsOf_4), (11, (0, 0)))
theorem ev_X9_sumsOf_240 : f_X9_sumsOfa [zR 1, zR 2] h0_X9_sumsOf_240 (zrk (zU) h1_X9_sumsOf_240) = true := by decide +kernel
noncomputable def g_X9_sumsOf_240 {d : Nat} : List zV → zH d → zP d → Bool := zsmyM [(0, 0), (0, 1), (1, 21), (1, 20), (1, 22), (1, 33), (1, 3), (1, 31), (1, 32), (1, 26), (1, 27)] [zR 1, zR 2] h0_X9_sumsOf_240 (zU) h1_X9_sumsOf_240
theorem mg_X9_sumsOf_240 {d : Nat} : zMet (d := d) X_X9_sumsOf yX9_sumsOf 17 g_X9_sumsOf_240 := zMet_smM m_X9_sumsOfa ev_X9_sumsOf_240
noncomputable def zk_99_zs1_99_f04_X9_sumsOf_7 : zC := (0, 7, 0x6000000000500000000010000000004000000000300000000020100000000)
noncomputable def h0_X9_sumsOf_241 : zH 4 := (show zT 4 from ((zk_99_zs1_99_f04_X9_sumsOf_0, (((0, 456, bg_91), zk_99_zs1_99_f04_X9_sumsOf_7), zk_99_zs1_99_f04_X9_sumsOf_2)), zk_99_zs1_99_f04_X9_sumsOf_4), (11, (0, 0)))
noncomputable def h1_X9_sumsOf_241 : zH 4 := (show zT 4 from ((zk_99_zs1_99_f04_X9_sumsOf_0, (((0, 456, bg_91), zk_99_zs1_99_f04_X9_sumsOf_7), zk_99_zs1_99_f04_X9_sumsOf_2)), zk_99_zs1_99_f04_X9_sumsOf_4), (11, (0, 0)))
theorem ev_X9_sumsOf_241 : f_X9_sumsOfa [zR 1, zR 2] h0_X9_sumsOf_241 (zrk (zU) h1_X9_sumsOf_241) = true := by decide +kernel
noncomputable def g_X9_sumsOf_241 {d : Nat} : List zV → zH d → zP d → Bool := zsmyM [(0, 0), (0, 1), (1, 21), (1, 20), (1, 22), (1, 33), (1, 3), (1, 31), (1, 32), (1, 26), (1, 27)] [zR 1, zR 2] h0_X9_sumsOf_241 (zU) h1_X9_sumsOf_241
theorem mg_X9_sumsOf_241 {d : Nat} : zMet (d := d) X_X9_sumsOf yX9_sumsOf 17 g_X9_sumsOf_241 := zMet_smM m_X9_sumsOfa ev_X9_sumsOf_241
noncomputable def zk_99_zs1_99_f04_X9_sumsOf_8 : zC := (0, 7, 0x4000000000600000000050000000001000000000300000000020100000000)
noncomputable def h0_X9_sumsOf_242 : zH 4 := (show zT 4 from ((zk_99_zs1_99_f04_X9_sumsOf_0, (((0, 456, bg_91), zk_99_zs1_99_f04_X9_sumsOf_8), zk_99_zs1_99_f04_X9_sumsOf_2)), zk_99_zs1_99_f04_X9_sumsOf_4), (11, (0, 0)))
noncomputable def h1_X9_sumsOf_242 : zH 4 := (show zT 4 from ((zk_99_zs1_99_f04_X9_sumsOf_0, (((0, 456, bg_91), zk_99_zs1_99_f04_X9_sumsOf_8), zk_99_zs1_99_f04_X9_sumsOf_2)), zk_99_zs1_99_f04_X9_sumsOf_4), (11, (0, 0)))
theorem ev_X9_sumsOf_242 : f_X9_sumsOfa [zR 1, zR 2] h0_X9_sumsOf_242 (zrk (zU) h1_X9_sumsOf_242) = true := by decide +kernel
noncomputable def g_X9_sumsOf_242 {d : Nat} : List zV → zH d → zP d → Bool := zsmyM [(0, 0), (0, 1), (1, 21), (1, 20), (1, 22), (1, 33), (1, 3), (1, 31), (1, 32), (1, 26), (1, 27)] [zR 1, zR 2] h0_X9_sumsOf_242 (zU) h1_X9_sumsOf_242
theorem mg_X9_sumsOf_242 {d : Nat} : zMet (d := d) X_X9_sumsOf yX9_sumsOf 17 g_X9_sumsOf_242 := zMet_smM m_X9_sumsOfa ev_X9_sumsOf_242
noncomputable def zk_99_zs1_99_f04_X9_sumsOf_9 : zC := (0, 7, 0x6000000000400000000050000000001000000000300000000020100000000)
noncomputable def h0_X9_sumsOf_243 : zH 4 := (show zT 4 from ((zk_99_zs1_99_f04_X9_sumsOf_0, (((0, 456, bg_91), zk_99_zs1_99_f04_X9_sumsOf_9), zk_99_zs1_99_f04_X9_sumsOf_2)), zk_99_zs1_99_f04_X9_sumsOf_4), (11, (0, 0)))
noncomputable def h1_X9_sumsOf_243 : zH 4 := (show zT 4 from ((zk_99_zs1_99_f04_X9_sumsOf_0, (((0, 456, bg_91), zk_99_zs1_99_f04_X9_sumsOf_9), zk_99_zs1_99_f04_X9_sumsOf_2)), zk_99_zs1_99_f04_X9_sumsOf_4), (11, (0, 0)))
theorem ev_X9_sumsOf_243 : f_X9_sumsOfa [zR 1, zR 2] h0_X9_sumsOf_243 (zrk (zU) h1_X9_sumsOf_243) = true := by decide +kernel
noncomputable def g_X9_sumsOf_243 {d : Nat} : List zV → zH d → zP d → Bool := zsmyM [(0, 0), (0, 1), (1, 21), (1, 20), (1, 22), (1, 33), (1, 3), (1, 31), (1, 32), (1, 26), (1, 27)] [zR 1, zR 2] h0_X9_sumsOf_243 (zU) h1_X9_sumsOf_243
theorem mg_X9_sumsOf_243 {d : Nat} : zMet (d := d) X_X9_sumsOf yX9_sumsOf 17 g_X9_sumsOf_243 := zMet_smM m_X9_sumsOfa ev_X9_sumsOf_243
noncomputable def zk_99_zs1_99_f04_X9_sumsOf_10 : zC := (0, 7, 0x6000000000500000000040000000002000000000100000000030100000000)
noncomputable def h0_X9_sumsOf_244 : zH 4 := (show zT 4 from ((zk_99_zs1_99_f04_X9_sumsOf_0, (((0, 456, bg_91), zk_99_zs1_99_f04_X9_sumsOf_10), zk_99_zs1_99_f04_X9_sumsOf_2)), zk_99_zs1_99_f04_X9_sumsOf_4), (11, (0, 0)))
noncomputable def h1_X9_sumsOf_244 : zH 4 := (show zT 4 from ((zk_99_zs1_99_f04_X9_sumsOf_0, (((0, 456, bg_91), zk_99_zs1_99_f04_X9_sumsOf_10), zk_99_zs1_99_f04_X9_sumsOf_2)), zk_99_zs1_99_f04_X9_sumsOf_4), (11, (0, 0)))
theorem ev_X9_sumsOf_244 : f_X9_sumsOfa [zR 1, zR 2] h0_X9_sumsOf_244 (zrk (zU) h1_X9_sumsOf_244) = true := by decide +kernel
noncomputable def g_X9_sumsOf_244 {d : Nat} : List zV → zH d → zP d → Bool := zsmyM [(0, 0), (0, 1), (1, 21), (1, 20), (1, 22), (1, 33), (1, 3), (1, 31), (1, 32), (1, 26), (1, 27)] [zR 1, zR 2] h0_X9_sumsOf_244 (zU) h1_X9_sumsOf_244
theorem mg_X9_sumsOf_244 {d : Nat} : zMet (d := d) X_X9_sumsOf yX9_sumsOf 17 g_X9_sumsOf_244 := zMet_smM m_X9_sumsOfa ev_X9_sumsOf_244
noncomputable def zk_99_zs1_99_f04_X9_sumsOf_11 : zC := (0, 7, 0x6000000000400000000050000000003000000000200000000010100000000)
noncomputable def h0_X9_sumsOf_245 : zH 4 := (show zT 4 from ((zk_99_zs1_99_f04_X9_sumsOf_0, (((0, 456, bg_91), zk_99_zs1_99_f04_X9_sumsOf_11), zk_99_zs1_99_f04_X9_sumsOf_2)), zk_99_zs1_99_f04_X9_sumsOf_4), (11, (0, 0)))
noncomputable def h1_X9_sumsOf_245 : zH 4 := (show zT 4 from ((zk_99_zs1_99_f04_X9_sumsOf_0, (((0, 456, bg_91), zk_99_zs1_99_f04_X9_sumsOf_11), zk_99_zs1_99_f04_X9_sumsOf_2)), zk_99_zs1_99_f04_X9_sumsOf_4), (11, (0, 0)))
theorem ev_X9_sumsOf_245 : f_X9_sumsOfa [zR 1, zR 2] h0_X9_sumsOf_245 (zrk (zU) h1_X9_sumsOf_245) = true := by decide +kernel
noncomputable def g_X9_sumsOf_245 {d : Nat} : List zV → zH d → zP d → Bool := zsmyM [(0, 0), (0, 1), (1, 21), (1, 20), (1, 22), (1, 33), (1, 3), (1, 31), (1, 32), (1, 26), (1, 27)] [zR 1, zR 2] h0_X9_sumsOf_245 (zU) h1_X9_sumsOf_245
theorem mg_X9_sumsOf_245 {d : Nat} : zMet (d := d) X_X9_sumsOf yX9_sumsOf 17 g_X9_sumsOf_245 := zMet_smM m_X9_sumsOfa ev_X9_sumsOf_245
noncomputable def zk_99_zs1_99_f04_X9_sumsOf_12 : zC := (0, 7, 0x6000000000500000000040000000001000000000300000000020100000000)
noncomputable def h0_X9_sumsOf_246 : zH 4 := (show zT 4 from ((zk_99_zs1_99_f04_X9_sumsOf_0, (((0, 456, bg_91), zk_99_zs1_99_f04_X9_sumsOf_12), zk_99_zs1_99_f04_X9_sumsOf_2)), zk_99_zs1_99_f04_X9_sumsOf_4), (11, (0, 0)))
noncomputable def h1_X9_sumsOf_246 : zH 4 := (show zT 4 from ((zk_99_zs1_99_f04_X9_sumsOf_0, (((0, 456, bg_91), zk_99_zs1_99_f04_X9_sumsOf_12), zk_99_zs1_99_f04_X9_sumsOf_2)), zk_99_zs1_99_f04_X9_sumsOf_4), (11, (0, 0)))
theorem ev_X9_sumsOf_246 : f_X9_sumsOfa [zR 1, zR 2] h0_X9_sumsOf_246 (zrk (zU) h1_X9_sumsOf_246) = true := by decide +kernel
noncomputable def g_X9_sumsOf_246 {d : Nat} : List zV → zH d → zP d → Bool := zsmyM [(0, 0), (0, 1), (1, 21), (1, 20), (1, 22), (1, 33), (1, 3), (1, 31), (1, 32), (1, 26), (1, 27)] [zR 1, zR 2] h0_X9_sumsOf_246 (zU) h1_X9_sumsOf_246
theorem mg_X9_sumsOf_246 {d : Nat} : zMet (d := d) X_X9_sumsOf yX9_sumsOf 17 g_X9_sumsOf_246 := zMet_smM m_X9_sumsOfa ev_X9_sumsOf_246
noncomputable def zk_99_zs1_99_f04_X9_sumsOf_13 : zC := (0, 7, 0x5000000000600000000030000000004000000000100000000020100000000)
noncomputable def h0_X9_sumsOf_247 : zH 4 := (show zT 4 from ((zk_99_zs1_99_f04_X9_sumsOf_0, (((0, 456, bg_91), zk_99_zs1_99_f04_X9_sumsOf_13), zk_99_zs1_99_f04_X9_sumsOf_2)), zk_99_zs1_99_f04_X9_sumsOf_4), (11, (0, 0)))
noncomputable def h1_X9_sumsOf_247 : zH 4 := (show zT 4 from ((zk_99_zs1_99_f04_X9_sumsOf_0, (((0, 456, bg_91), zk_99_zs1_99_f04_X9_sumsOf_13), zk_99_zs1_99_f04_X9_sumsOf_2)), zk_99_zs1_99_f04_X9_sumsOf_4), (11, (0, 0)))
theorem ev_X9_sumsOf_247 : f_X9_sumsOfa [zR 1, zR 2] h0_X9_sumsOf_247 (zrk (zU) h1_X9_sumsOf_247) = true := by decide +kernel
noncomputable def g_X9_sumsOf_247 {d : Nat} : List zV → zH d → zP d → Bool := zsmyM [(0, 0), (0, 1), (1, 21), (1, 20), (1, 22), (1, 33), (1, 3), (1, 31), (1, 32), (1, 26), (1, 27)] [zR 1, zR 2] h0_X9_sumsOf_247 (zU) h1_X9_sumsOf_247
theorem mg_X9_sumsOf_247 {d : Nat} : zMet (d := d) X_X9_sumsOf yX9_sumsOf 17 g_X9_sumsOf_247 := zMet_smM m_X9_sumsOfa ev_X9_sumsOf_247
noncomputable def zk_99_zs1_99_f04_X9_sumsOf_14 : zC := (0, 7, 0x6000000000500000000030000000004000000000100000000020100000000)
noncomputable def h0_X9_sumsOf_248 : zH 4 := (show zT 4 from ((zk_99_zs1_99_f04_X9_sumsOf_0, (((0, 456, bg_91), zk_99_zs1_99_f04_X9_sumsOf_14), zk_99_zs1_99_f04_X9_sumsOf_2)), zk_99_zs1_99_f04_X9_sumsOf_4), (11, (0, 0)))
noncomputable def h1_X9_sumsOf_248 : zH 4 := (show zT 4 from ((zk_99_zs1_99_f04_X9_sumsOf_0, (((0, 456, bg_91), zk_99_zs1_99_f04_X9_sumsOf_14), zk_99_zs1_99_f04_X9_sumsOf_2)), zk_99_zs1_99_f04_X9_sumsOf_4), (11, (0, 0)))
theorem ev_X9_sumsOf_248 : f_X9_sumsOfa [zR 1, zR 2] h0_X9_sumsOf_248 (zrk (zU) h1_X9_sumsOf_248) = true := by decide +kernel
noncomputable def g_X9_sumsOf_248 {d : Nat} : List zV → zH d → zP d → Bool := zsmyM [(0, 0), (0, 1), (1, 21), (1, 20), (1, 22), (1, 33), (1, 3), (1, 31), (1, 32), (1, 26), (1, 27)] [zR 1, zR 2] h0_X9_sumsOf_248 (zU) h1_X9_sumsOf_248
theorem mg_X9_sumsOf_248 {d : Nat} : zMet (d := d) X_X9_sumsOf yX9_sumsOf 17 g_X9_sumsOf_248 := zMet_smM m_X9_sumsOfa ev_X9_sumsOf_248
noncomputable def zk_99_zs1_99_f04_X9_sumsOf_15 : zC := (0, 7, 0x6000000000500000000040000000003000000000100000000020100000000)
noncomputable def h0_X9_sumsOf_249 : zH 4 := (show zT 4 from ((zk_99_zs1_99_f04_X9_sumsOf_0, (((0, 456, bg_91), zk_99_zs1_99_f04_X9_sumsOf_15), zk_99_zs1_99_f04_X9_sumsOf_2)), zk_99_zs1_99_f04_X9_sumsOf_4), (11, (0, 0)))
noncomputable def h1_X9_sumsOf_249 : zH 4 := (show zT 4 from ((zk_99_zs1_99_f04_X9_sumsOf_0, (((0, 456, bg_91), zk_99_zs1_99_f04_X9_sumsOf_15), zk_99_zs1_99_f04_X9_sumsOf_2)), zk_99_zs1_99_f04_X9_sumsOf_4), (11, (0, 0)))
theorem ev_X9_sumsOf_249 : f_X9_sumsOfa [zR 1, zR 2] h0_X9_sumsOf_249 (zrk (zU) h1_X9_sumsOf_249) = true := by decide +kernel
noncomputable def g_X9_sumsOf_249 {d : Nat} : List zV → zH d → zP d → Bool := zsmyM [(0, 0), (0, 1), (1, 21), (1, 20), (1, 22), (1, 33), (1, 3), (1, 31), (1, 32), (1, 26), (1, 27)] [zR 1, zR 2] h0_X9_sumsOf_249 (zU) h1_X9_sumsOf_249
theorem mg_X9_sumsOf_249 {d : Nat} : zMet (d := d) X_X9_sumsOf yX9_sumsOf 17 g_X9_sumsOf_249 := zMet_smM m_X9_sumsOfa ev_X9_sumsOf_249
noncomputable def zk_99_zs1_99_f04_X9_sumsOf_16 : zT 2 := @Prod.mk (zT 1) (zT 1) ((25, 63, bg_192), (0, 12000, zun 40 12000 4294967296)) ((0, 11, bg_193), (0, 11, bg_194))
noncomputable def zk_99_zs1_99_f04_X9_sumsOf_17 : zC := (0, 7, 0x1000000000600000000050000000004000000000300000000020100000000)
noncomputable def zk_99_zs1_99_f04_X9_sumsOf_18 : zT 3 := @Prod.mk (zT 2) (zT 2) ((zk_99_zs1_99_f04_X9_sumsOf_3, (10, 46656, 594)), ((11, 720, 594), (0, 0, 0))) zO2
noncomputable def h0_X9_sumsOf_250 : zH 4 := (show zT 4 from ((zk_99_zs1_99_f04_X9_sumsOf_16, (((0, 456, bg_94), zk_99_zs1_99_f04_X9_sumsOf_17), zk_99_zs1_99_f04_X9_sumsOf_2)), zk_99_zs1_99_f04_X9_sumsOf_18), (11, (0, 0)))
noncomputable def h1_X9_sumsOf_250 : zH 4 := (show zT 4 from ((zk_99_zs1_99_f04_X9_sumsOf_16, (((0, 456, bg_94), zk_99_zs1_99_f04_X9_sumsOf_17), zk_99_zs1_99_f04_X9_sumsOf_2)), zk_99_zs1_99_f04_X9_sumsOf_18), (11, (0, 0)))
theorem ev_X9_sumsOf_250 : f_X9_sumsOfa [zR 1, zR 2] h0_X9_sumsOf_250 (zrk (zU) h1_X9_sumsOf_250) = true := by decide +kernel
noncomputable def g_X9_sumsOf_250 {d : Nat} : List zV → zH d → zP d → Bool := zsmyM [(0, 0), (0, 1), (1, 21), (1, 20), (1, 22), (1, 33), (1, 3), (1, 31), (1, 32), (1, 26), (1, 27)] [zR 1, zR 2] h0_X9_sumsOf_250 (zU) h1_X9_sumsOf_250
theorem mg_X9_sumsOf_250 {d : Nat} : zMet (d := d) X_X9_sumsOf yX9_sumsOf 17 g_X9_sumsOf_250 := zMet_smM m_X9_sumsOfa ev_X9_sumsOf_250
noncomputable def zk_99_zs1_99_f04_X9_sumsOf_19 : zC := (0, 7, 0x2000000000100000000060000000005000000000400000000030100000000)
noncomputable def h0_X9_sumsOf_251 : zH 4 := (show zT 4 from ((zk_99_zs1_99_f04_X9_sumsOf_16, (((0, 456, bg_94), zk_99_zs1_99_f04_X9_sumsOf_19), zk_99_zs1_99_f04_X9_sumsOf_2)), zk_99_zs1_99_f04_X9_sumsOf_18), (11, (0, 0)))
noncomputable def h1_X9_sumsOf_251 : zH 4 := (show zT 4 from ((zk_99_zs1_99_f04_X9_sumsOf_16, (((0, 456, bg_94), zk_99_zs1_99_f04_X9_sumsOf_19), zk_99_zs1_99_f04_X9_sumsOf_2)), zk_99_zs1_99_f04_X9_sumsOf_18), (11, (0, 0)))
theorem ev_X9_sumsOf_251 : f_X9_sumsOfa [zR 1, zR 2] h0_X9_sumsOf_251 (zrk (zU) h1_X9_sumsOf_251) = true := by decide +kernel
noncomputable def g_X9_sumsOf_251 {d : Nat} : List zV → zH d → zP d → Bool := zsmyM [(0, 0), (0, 1), (1, 21), (1, 20), (1, 22), (1, 33), (1, 3), (1, 31), (1, 32), (1, 26), (1, 27)] [zR 1, zR 2] h0_X9_sumsOf_251 (zU) h1_X9_sumsOf_251
theorem mg_X9_sumsOf_251 {d : Nat} : zMet (d := d) X_X9_sumsOf yX9_sumsOf 17 g_X9_sumsOf_251 := zMet_smM m_X9_sumsOfa ev_X9_sumsOf_251
noncomputable def h0_X9_sumsOf_252 : zH 4 := (show zT 4 from ((zk_99_zs1_99_f04_X9_sumsOf_16, (((0, 456, bg_94), zk_99_zs1_99_f04_X9_sumsOf_1), zk_99_zs1_99_f04_X9_sumsOf_2)), zk_99_zs1_99_f04_X9_sumsOf_18), (11, (0, 0)))
noncomputable def h1_X9_sumsOf_252 : zH 4 := (show zT 4 from ((zk_99_zs1_99_f04_X9_sumsOf_16, (((0, 456, bg_94), zk_99_zs1_99_f04_X9_sumsOf_1), zk_99_zs1_99_f04_X9_sumsOf_2)), zk_99_zs1_99_f04_X9_sumsOf_18), (11, (0, 0)))
theorem ev_X9_sumsOf_252 : f_X9_sumsOfa [zR 1, zR 2] h0_X9_sumsOf_252 (zrk (zU) h1_X9_sumsOf_252) = true := by decide +kernel
noncomputable def g_X9_sumsOf_252 {d : Nat} : List zV → zH d → zP d → Bool := zsmyM [(0, 0), (0, 1), (1, 21), (1, 20), (1, 22), (1, 33), (1, 3), (1, 31), (1, 32), (1, 26), (1, 27)] [zR 1, zR 2] h0_X9_sumsOf_252 (zU) h1_X9_sumsOf_252
theorem mg_X9_sumsOf_252 {d : Nat} : zMet (d := d) X_X9_sumsOf yX9_sumsOf 17 g_X9_sumsOf_252 := zMet_smM m_X9_sumsOfa ev_X9_sumsOf_252
noncomputable def h0_X9_sumsOf_253 : zH 4 := (show zT 4 from ((zk_99_zs1_99_f04_X9_sumsOf_16, (((0, 456, bg_94), zk_99_zs1_99_f04_X9_sumsOf_8), zk_99_zs1_99_f04_X9_sumsOf_2)), zk_99_zs1_99_f04_X9_sumsOf_18), (11, (0, 0)))
noncomputable def h1_X9_sumsOf_253 : zH 4 := (show zT 4 from ((zk_99_zs1_99_f04_X9_sumsOf_16, (((0, 456, bg_94), zk_99_zs1_99_f04_X9_sumsOf_8), zk_99_zs1_99_f04_X9_sumsOf_2)), zk_99_zs1_99_f04_X9_sumsOf_18), (11, (0, 0)))
theorem ev_X9_sumsOf_253 : f_X9_sumsOfa [zR 1, zR 2] h0_X9_sumsOf_253 (zrk (zU) h1_X9_sumsOf_253) = true := by decide +kernel
noncomputable def g_X9_sumsOf_253 {d : Nat} : List zV → zH d → zP d → Bool := zsmyM [(0, 0), (0, 1), (1, 21), (1, 20), (1, 22), (1, 33), (1, 3), (1, 31), (1, 32), (1, 26), (1, 27)] [zR 1, zR 2] h0_X9_sumsOf_253 (zU) h1_X9_sumsOf_253
theorem mg_X9_sumsOf_253 {d : Nat} : zMet (d := d) X_X9_sumsOf yX9_sumsOf 17 g_X9_sumsOf_253 := zMet_smM m_X9_sumsOfa ev_X9_sumsOf_253
noncomputable def h0_X9_sumsOf_254 : zH 4 := (show zT 4 from ((zk_99_zs1_99_f04_X9_sumsOf_16, (((0, 456, bg_94), zk_99_zs1_99_f04_X9_sumsOf_9), zk_99_zs1_99_f04_X9_sumsOf_2)), zk_99_zs1_99_f04_X9_sumsOf_18), (11, (0, 0)))
noncomputable def h1_X9_sumsOf_254 : zH 4 := (show zT 4 from ((zk_99_zs1_99_f04_X9_sumsOf_16, (((0, 456, bg_94), zk_99_zs1_99_f04_X9_sumsOf_9), zk_99_zs1_99_f04_X9_sumsOf_2)), zk_99_zs1_99_f04_X9_sumsOf_18), (11, (0, 0)))
theorem ev_X9_sumsOf_254 : f_X9_sumsOfa [zR 1, zR 2] h0_X9_sumsOf_254 (zrk (zU) h1_X9_sumsOf_254) = true := by decide +kernel
noncomputable def g_X9_sumsOf_254 {d : Nat} : List zV → zH d → zP d → Bool := zsmyM [(0, 0), (0, 1), (1, 21), (1, 20), (1, 22), (1, 33), (1, 3), (1, 31), (1, 32), (1, 26), (1, 27)] [zR 1, zR 2] h0_X9_sumsOf_254 (zU) h1_X9_sumsOf_254
theorem mg_X9_sumsOf_254 {d : Nat} : zMet (d := d) X_X9_sumsOf yX9_sumsOf 17 g_X9_sumsOf_254 := zMet_smM m_X9_sumsOfa ev_X9_sumsOf_254
noncomputable def h0_X9_sumsOf_255 : zH 4 := (show zT 4 from ((zk_99_zs1_99_f04_X9_sumsOf_16, (((0, 456, bg_94), zk_99_zs1_99_f04_X9_sumsOf_10), zk_99_zs1_99_f04_X9_sumsOf_2)), zk_99_zs1_99_f04_X9_sumsOf_18), (11, (0, 0)))
noncomputable def h1_X9_sumsOf_255 : zH 4 := (show zT 4 from ((zk_99_zs1_99_f04_X9_sumsOf_16, (((0, 456, bg_94), zk_99_zs1_99_f04_X9_sumsOf_10), zk_99_zs1_99_f04_X9_sumsOf_2)), zk_99_zs1_99_f04_X9_sumsOf_18), (11, (0, 0)))
theorem ev_X9_sumsOf_255 : f_X9_sumsOfa [zR 1, zR 2] h0_X9_sumsOf_255 (zrk (zU) h1_X9_sumsOf_255) = true := by decide +kernel
noncomputable def g_X9_sumsOf_255 {d : Nat} : List zV → zH d → zP d → Bool := zsmyM [(0, 0), (0, 1), (1, 21), (1, 20), (1, 22), (1, 33), (1, 3), (1, 31), (1, 32), (1, 26), (1, 27)] [zR 1, zR 2] h0_X9_sumsOf_255 (zU) h1_X9_sumsOf_255
theorem mg_X9_sumsOf_255 {d : Nat} : zMet (d := d) X_X9_sumsOf yX9_sumsOf 17 g_X9_sumsOf_255 := zMet_smM m_X9_sumsOfa ev_X9_sumsOf_255
noncomputable def h0_X9_sumsOf_256 : zH 4 := (show zT 4 from ((zk_99_zs1_99_f04_X9_sumsOf_16, (((0, 456, bg_94), zk_99_zs1_99_f04_X9_sumsOf_11), zk_99_zs1_99_f04_X9_sumsOf_2)), zk_99_zs1_99_f04_X9_sumsOf_18), (11, (0, 0)))
noncomputable def h1_X9_sumsOf_256 : zH 4 := (show zT 4 from ((zk_99_zs1_99_f04_X9_sumsOf_16, (((0, 456, bg_94), zk_99_zs1_99_f04_X9_sumsOf_11), zk_99_zs1_99_f04_X9_sumsOf_2)), zk_99_zs1_99_f04_X9_sumsOf_18), (11, (0, 0)))
theorem ev_X9_sumsOf_256 : f_X9_sumsOfa [zR 1, zR 2] h0_X9_sumsOf_256 (zrk (zU) h1_X9_sumsOf_256) = true := by decide +kernel
noncomputable def g_X9_sumsOf_256 {d : Nat} : List zV → zH d → zP d → Bool := zsmyM [(0, 0), (0, 1), (1, 21), (1, 20), (1, 22), (1, 33), (1, 3), (1, 31), (1, 32), (1, 26), (1, 27)] [zR 1, zR 2] h0_X9_sumsOf_256 (zU) h1_X9_sumsOf_256
theorem mg_X9_sumsOf_256 {d : Nat} : zMet (d := d) X_X9_sumsOf yX9_sumsOf 17 g_X9_sumsOf_256 := zMet_smM m_X9_sumsOfa ev_X9_sumsOf_256
noncomputable def h0_X9_sumsOf_257 : zH 4 := (show zT 4 from ((zk_99_zs1_99_f04_X9_sumsOf_16, (((0, 456, bg_94), zk_99_zs1_99_f04_X9_sumsOf_12), zk_99_zs1_99_f04_X9_sumsOf_2)), zk_99_zs1_99_f04_X9_sumsOf_18), (11, (0, 0)))
noncomputable def h1_X9_sumsOf_257 : zH 4 := (show zT 4 from ((zk_99_zs1_99_f04_X9_sumsOf_16, (((0, 456, bg_94), zk_99_zs1_99_f04_X9_sumsOf_12), zk_99_zs1_99_f04_X9_sumsOf_2)), zk_99_zs1_99_f04_X9_sumsOf_18), (11, (0, 0)))
theorem ev_X9_sumsOf_257 : f_X9_sumsOfa [zR 1, zR 2] h0_X9_sumsOf_257 (zrk (zU) h1_X9_sumsOf_257) = true := by decide +kernel
noncomputable def g_X9_sumsOf_257 {d : Nat} : List zV → zH d → zP d → Bool := zsmyM [(0, 0), (0, 1), (1, 21), (1, 20), (1, 22), (1, 33), (1, 3), (1, 31), (1, 32), (1, 26), (1, 27)] [zR 1, zR 2] h0_X9_sumsOf_257 (zU) h1_X9_sumsOf_257
theorem mg_X9_sumsOf_257 {d : Nat} : zMet (d := d) X_X9_sumsOf yX9_sumsOf 17 g_X9_sumsOf_257 := zMet_smM m_X9_sumsOfa ev_X9_sumsOf_257
noncomputable def zk_99_zs1_99_f04_X9_sumsOf_20 : zT 2 := @Prod.mk (zT 1) (zT 1) ((25, 63, bg_195), (0, 12000, zun 40 12000 4294967296)) ((0, 11, bg_196), (0, 11, bg_197))
noncomputable def zk_99_zs1_99_f04_X9_sumsOf_21 : zT 3 := @Prod.mk (zT 2) (zT 2) ((zk_99_zs1_99_f04_X9_sumsOf_3, (10, 46656, 4682)), ((11, 720, 4682), (0, 0, 0))) zO2
noncomputable def h0_X9_sumsOf_258 : zH 4 := (show zT 4 from ((zk_99_zs1_99_f04_X9_sumsOf_20, (((0, 456, bg_97), zk_99_zs1_99_f04_X9_sumsOf_17), zk_99_zs1_99_f04_X9_sumsOf_2)), zk_99_zs1_99_f04_X9_sumsOf_21), (11, (0, 0)))
noncomputable def h1_X9_sumsOf_258 : zH 4 := (show zT 4 from ((zk_99_zs1_99_f04_X9_sumsOf_20, (((0, 456, bg_97), zk_99_zs1_99_f04_X9_sumsOf_17), zk_99_zs1_99_f04_X9_sumsOf_2)), zk_99_zs1_99_f04_X9_sumsOf_21), (11, (0, 0)))
theorem ev_X9_sumsOf_258 : f_X9_sumsOfa [zR 1, zR 2] h0_X9_sumsOf_258 (zrk (zU) h1_X9_sumsOf_258) = true := by decide +kernel
noncomputable def g_X9_sumsOf_258 {d : Nat} : List zV → zH d → zP d → Bool := zsmyM [(0, 0), (0, 1), (1, 21), (1, 20), (1, 22), (1, 33), (1, 3), (1, 31), (1, 32), (1, 26), (1, 27)] [zR 1, zR 2] h0_X9_sumsOf_258 (zU) h1_X9_sumsOf_258
theorem mg_X9_sumsOf_258 {d : Nat} : zMet (d := d) X_X9_sumsOf yX9_sumsOf 17 g_X9_sumsOf_258 := zMet_smM m_X9_sumsOfa ev_X9_sumsOf_258
noncomputable def h0_X9_sumsOf_259 : zH 4 := (show zT 4 from ((zk_99_zs1_99_f04_X9_sumsOf_20, (((0, 456, bg_97), zk_99_zs1_99_f04_X9_sumsOf_19), zk_99_zs1_99_f04_X9_sumsOf_2)), zk_99_zs1_99_f04_X9_sumsOf_21), (11, (0, 0)))
noncomputable def h1_X9_sumsOf_259 : zH 4 := (show zT 4 from ((zk_99_zs1_99_f04_X9_sumsOf_20, (((0, 456, bg_97), zk_99_zs1_99_f04_X9_sumsOf_19), zk_99_zs1_99_f04_X9_sumsOf_2)), zk_99_zs1_99_f04_X9_sumsOf_21), (11, (0, 0)))
theorem ev_X9_sumsOf_259 : f_X9_sumsOfa [zR 1, zR 2] h0_X9_sumsOf_259 (zrk (zU) h1_X9_sumsOf_259) = true := by decide +kernel
noncomputable def g_X9_sumsOf_259 {d : Nat} : List zV → zH d → zP d → Bool := zsmyM [(0, 0), (0, 1), (1, 21), (1, 20), (1, 22), (1, 33), (1, 3), (1, 31), (1, 32), (1, 26), (1, 27)] [zR 1, zR 2] h0_X9_sumsOf_259 (zU) h1_X9_sumsOf_259
theorem mg_X9_sumsOf_259 {d : Nat} : zMet (d := d) X_X9_sumsOf yX9_sumsOf 17 g_X9_sumsOf_259 := zMet_smM m_X9_sumsOfa ev_X9_sumsOf_259
noncomputable def h0_X9_sumsOf_260 : zH 4 := (show zT 4 from ((zk_99_zs1_99_f04_X9_sumsOf_20, (((0, 456, bg_97), zk_99_zs1_99_f04_X9_sumsOf_1), zk_99_zs1_99_f04_X9_sumsOf_2)), zk_99_zs1_99_f04_X9_sumsOf_21), (11, (0, 0)))
noncomputable def h1_X9_sumsOf_260 : zH 4 := (show zT 4 from ((zk_99_zs1_99_f04_X9_sumsOf_20, (((0, 456, bg_97), zk_99_zs1_99_f04_X9_sumsOf_1), zk_99_zs1_99_f04_X9_sumsOf_2)), zk_99_zs1_99_f04_X9_sumsOf_21), (11, (0, 0)))
theorem ev_X9_sumsOf_260 : f_X9_sumsOfa [zR 1, zR 2] h0_X9_sumsOf_260 (zrk (zU) h1_X9_sumsOf_260) = true := by decide +kernel
noncomputable def g_X9_sumsOf_260 {d : Nat} : List zV → zH d → zP d → Bool := zsmyM [(0, 0), (0, 1), (1, 21), (1, 20), (1, 22), (1, 33), (1, 3), (1, 31), (1, 32), (1, 26), (1, 27)] [zR 1, zR 2] h0_X9_sumsOf_260 (zU) h1_X9_sumsOf_260
theorem mg_X9_sumsOf_260 {d : Nat} : zMet (d := d) X_X9_sumsOf yX9_sumsOf 17 g_X9_sumsOf_260 := zMet_smM m_X9_sumsOfa ev_X9_sumsOf_260
noncomputable def h0_X9_sumsOf_261 : zH 4 := (show zT 4 from ((zk_99_zs1_99_f04_X9_sumsOf_20, (((0, 456, bg_97), zk_99_zs1_99_f04_X9_sumsOf_5), zk_99_zs1_99_f04_X9_sumsOf_2)), zk_99_zs1_99_f04_X9_sumsOf_21), (11, (0, 0)))
noncomputable def h1_X9_sumsOf_261 : zH 4 := (show zT 4 from ((zk_99_zs1_99_f04_X9_sumsOf_20, (((0, 456, bg_97), zk_99_zs1_99_f04_X9_sumsOf_5), zk_99_zs1_99_f04_X9_sumsOf_2)), zk_99_zs1_99_f04_X9_sumsOf_21), (11, (0, 0)))
theorem ev_X9_sumsOf_261 : f_X9_sumsOfa [zR 1, zR 2] h0_X9_sumsOf_261 (zrk (zU) h1_X9_sumsOf_261) = true := by decide +kernel
noncomputable def g_X9_sumsOf_261 {d : Nat} : List zV → zH d → zP d → Bool := zsmyM [(0, 0), (0, 1), (1, 21), (1, 20), (1, 22), (1, 33), (1, 3), (1, 31), (1, 32), (1, 26), (1, 27)] [zR 1, zR 2] h0_X9_sumsOf_261 (zU) h1_X9_sumsOf_261
theorem mg_X9_sumsOf_261 {d : Nat} : zMet (d := d) X_X9_sumsOf yX9_sumsOf 17 g_X9_sumsOf_261 := zMet_smM m_X9_sumsOfa ev_X9_sumsOf_261
noncomputable def h0_X9_sumsOf_262 : zH 4 := (show zT 4 from ((zk_99_zs1_99_f04_X9_sumsOf_20, (((0, 456, bg_97), zk_99_zs1_99_f04_X9_sumsOf_6), zk_99_zs1_99_f04_X9_sumsOf_2)), zk_99_zs1_99_f04_X9_sumsOf_21), (11, (0, 0)))
noncomputable def h1_X9_sumsOf_262 : zH 4 := (show zT 4 from ((zk_99_zs1_99_f04_X9_sumsOf_20, (((0, 456, bg_97), zk_99_zs1_99_f04_X9_sumsOf_6), zk_99_zs1_99_f04_X9_sumsOf_2)), zk_99_zs1_99_f04_X9_sumsOf_21), (11, (0, 0)))
theorem ev_X9_sumsOf_262 : f_X9_sumsOfa [zR 1, zR 2] h0_X9_sumsOf_262 (zrk (zU) h1_X9_sumsOf_262) = true := by decide +kernel
noncomputable def g_X9_sumsOf_262 {d : Nat} : List zV → zH d → zP d → Bool := zsmyM [(0, 0), (0, 1), (1, 21), (1, 20), (1, 22), (1, 33), (1, 3), (1, 31), (1, 32), (1, 26), (1, 27)] [zR 1, zR 2] h0_X9_sumsOf_262 (zU) h1_X9_sumsOf_262
theorem mg_X9_sumsOf_262 {d : Nat} : zMet (d := d) X_X9_sumsOf yX9_sumsOf 17 g_X9_sumsOf_262 := zMet_smM m_X9_sumsOfa ev_X9_sumsOf_262
noncomputable def h0_X9_sumsOf_263 : zH 4 := (show zT 4 from ((zk_99_zs1_99_f04_X9_sumsOf_20, (((0, 456, bg_97), zk_99_zs1_99_f04_X9_sumsOf_7), zk_99_zs1_99_f04_X9_sumsOf_2)), zk_99_zs1_99_f04_X9_sumsOf_21), (11, (0, 0)))
noncomputable def h1_X9_sumsOf_263 : zH 4 := (show zT 4 from ((zk_99_zs1_99_f04_X9_sumsOf_20, (((0, 456, bg_97), zk_99_zs1_99_f04_X9_sumsOf_7), zk_99_zs1_99_f04_X9_sumsOf_2)), zk_99_zs1_99_f04_X9_sumsOf_21), (11, (0, 0)))
theorem ev_X9_sumsOf_263 : f_X9_sumsOfa [zR 1, zR 2] h0_X9_sumsOf_263 (zrk (zU) h1_X9_sumsOf_263) = true := by decide +kernel
noncomputable def g_X9_sumsOf_263 {d : Nat} : List zV → zH d → zP d → Bool := zsmyM [(0, 0), (0, 1), (1, 21), (1, 20), (1, 22), (1, 33), (1, 3), (1, 31), (1, 32), (1, 26), (1, 27)] [zR 1, zR 2] h0_X9_sumsOf_263 (zU) h1_X9_sumsOf_263
theorem mg_X9_sumsOf_263 {d : Nat} : zMet (d := d) X_X9_sumsOf yX9_sumsOf 17 g_X9_sumsOf_263 := zMet_smM m_X9_sumsOfa ev_X9_sumsOf_263
noncomputable def h0_X9_sumsOf_264 : zH 4 := (show zT 4 from ((zk_99_zs1_99_f04_X9_sumsOf_20, (((0, 456, bg_97), zk_99_zs1_99_f04_X9_sumsOf_8), zk_99_zs1_99_f04_X9_sumsOf_2)), zk_99_zs1_99_f04_X9_sumsOf_21), (11, (0, 0)))
noncomputable def h1_X9_sumsOf_264 : zH 4 := (show zT 4 from ((zk_99_zs1_99_f04_X9_sumsOf_20, (((0, 456, bg_97), zk_99_zs1_99_f04_X9_sumsOf_8), zk_99_zs1_99_f04_X9_sumsOf_2)), zk_99_zs1_99_f04_X9_sumsOf_21), (11, (0, 0)))
theorem ev_X9_sumsOf_264 : f_X9_sumsOfa [zR 1, zR 2] h0_X9_sumsOf_264 (zrk (zU) h1_X9_sumsOf_264) = true := by decide +kernel
noncomputable def g_X9_sumsOf_264 {d : Nat} : List zV → zH d → zP d → Bool := zsmyM [(0, 0), (0, 1), (1, 21), (1, 20), (1, 22), (1, 33), (1, 3), (1, 31), (1, 32), (1, 26), (1, 27)] [zR 1, zR 2] h0_X9_sumsOf_264 (zU) h1_X9_sumsOf_264
theorem mg_X9_sumsOf_264 {d : Nat} : zMet (d := d) X_X9_sumsOf yX9_sumsOf 17 g_X9_sumsOf_264 := zMet_smM m_X9_sumsOfa ev_X9_sumsOf_264
noncomputable def h0_X9_sumsOf_265 : zH 4 := (show zT 4 from ((zk_99_zs1_99_f04_X9_sumsOf_20, (((0, 456, bg_97), zk_99_zs1_99_f04_X9_sumsOf_9), zk_99_zs1_99_f04_X9_sumsOf_2)), zk_99_zs1_99_f04_X9_sumsOf_21), (11, (0, 0)))
noncomputable def h1_X9_sumsOf_265 : zH 4 := (show zT 4 from ((zk_99_zs1_99_f04_X9_sumsOf_20, (((0, 456, bg_97), zk_99_zs1_99_f04_X9_sumsOf_9), zk_99_zs1_99_f04_X9_sumsOf_2)), zk_99_zs1_99_f04_X9_sumsOf_21), (11, (0, 0)))
theorem ev_X9_sumsOf_265 : f_X9_sumsOfa [zR 1, zR 2] h0_X9_sumsOf_265 (zrk (zU) h1_X9_sumsOf_265) = true := by decide +kernel
noncomputable def g_X9_sumsOf_265 {d : Nat} : List zV → zH d → zP d → Bool := zsmyM [(0, 0), (0, 1), (1, 21), (1, 20), (1, 22), (1, 33), (1, 3), (1, 31), (1, 32), (1, 26), (1, 27)] [zR 1, zR 2] h0_X9_sumsOf_265 (zU) h1_X9_sumsOf_265
theorem mg_X9_sumsOf_265 {d : Nat} : zMet (d := d) X_X9_sumsOf yX9_sumsOf 17 g_X9_sumsOf_265 := zMet_smM m_X9_sumsOfa ev_X9_sumsOf_265
noncomputable def h0_X9_sumsOf_266 : zH 4 := (show zT 4 from ((zk_99_zs1_99_f04_X9_sumsOf_20, (((0, 456, bg_97), zk_99_zs1_99_f04_X9_sumsOf_10), zk_99_zs1_99_f04_X9_sumsOf_2)), zk_99_zs1_99_f04_X9_sumsOf_21), (11, (0, 0)))
noncomputable def h1_X9_sumsOf_266 : zH 4 := (show zT 4 from ((zk_99_zs1_99_f04_X9_sumsOf_20, (((0, 456, bg_97), zk_99_zs1_99_f04_X9_sumsOf_10), zk_99_zs1_99_f04_X9_sumsOf_2)), zk_99_zs1_99_f04_X9_sumsOf_21), (11, (0, 0)))
theorem ev_X9_sumsOf_266 : f_X9_sumsOfa [zR 1, zR 2] h0_X9_sumsOf_266 (zrk (zU) h1_X9_sumsOf_266) = true := by decide +kernel
noncomputable def g_X9_sumsOf_266 {d : Nat} : List zV → zH d → zP d → Bool := zsmyM [(0, 0), (0, 1), (1, 21), (1, 20), (1, 22), (1, 33), (1, 3), (1, 31), (1, 32), (1, 26), (1, 27)] [zR 1, zR 2] h0_X9_sumsOf_266 (zU) h1_X9_sumsOf_266
theorem mg_X9_sumsOf_266 {d : Nat} : zMet (d := d) X_X9_sumsOf yX9_sumsOf 17 g_X9_sumsOf_266 := zMet_smM m_X9_sumsOfa ev_X9_sumsOf_266
noncomputable def h0_X9_sumsOf_267 : zH 4 := (show zT 4 from ((zk_99_zs1_99_f04_X9_sumsOf_20, (((0, 456, bg_97), zk_99_zs1_99_f04_X9_sumsOf_11), zk_99_zs1_99_f04_X9_sumsOf_2)), zk_99_zs1_99_f04_X9_sumsOf_21), (11, (0, 0)))
noncomputable def h1_X9_sumsOf_267 : zH 4 := (show zT 4 from ((zk_99_zs1_99_f04_X9_sumsOf_20, (((0, 456, bg_97), zk_99_zs1_99_f04_X9_sumsOf_11), zk_99_zs1_99_f04_X9_sumsOf_2)), zk_99_zs1_99_f04_X9_sumsOf_21), (11, (0, 0)))
theorem ev_X9_sumsOf_267 : f_X9_sumsOfa [zR 1, zR 2] h0_X9_sumsOf_267 (zrk (zU) h1_X9_sumsOf_267) = true := by decide +kernel
noncomputable def g_X9_sumsOf_267 {d : Nat} : List zV → zH d → zP d → Bool := zsmyM [(0, 0), (0, 1), (1, 21), (1, 20), (1, 22), (1, 33), (1, 3), (1, 31), (1, 32), (1, 26), (1, 27)] [zR 1, zR 2] h0_X9_sumsOf_267 (zU) h1_X9_sumsOf_267
theorem mg_X9_sumsOf_267 {d : Nat} : zMet (d := d) X_X9_sumsOf yX9_sumsOf 17 g_X9_sumsOf_267 := zMet_smM m_X9_sumsOfa ev_X9_sumsOf_267
noncomputable def h0_X9_sumsOf_268 : zH 4 := (show zT 4 from ((zk_99_zs1_99_f04_X9_sumsOf_20, (((0, 456, bg_97), zk_99_zs1_99_f04_X9_sumsOf_12), zk_99_zs1_99_f04_X9_sumsOf_2)), zk_99_zs1_99_f04_X9_sumsOf_21), (11, (0, 0)))
noncomputable def h1_X9_sumsOf_268 : zH 4 := (show zT 4 from ((zk_99_zs1_99_f04_X9_sumsOf_20, (((0, 456, bg_97), zk_99_zs1_99_f04_X9_sumsOf_12), zk_99_zs1_99_f04_X9_sumsOf_2)), zk_99_zs1_99_f04_X9_sumsOf_21), (11, (0, 0)))
theorem ev_X9_sumsOf_268 : f_X9_sumsOfa [zR 1, zR 2] h0_X9_sumsOf_268 (zrk (zU) h1_X9_sumsOf_268) = true := by decide +kernel
noncomputable def g_X9_sumsOf_268 {d : Nat} : List zV → zH d → zP d → Bool := zsmyM [(0, 0), (0, 1), (1, 21), (1, 20), (1, 22), (1, 33), (1, 3), (1, 31), (1, 32), (1, 26), (1, 27)] [zR 1, zR 2] h0_X9_sumsOf_268 (zU) h1_X9_sumsOf_268
theorem mg_X9_sumsOf_268 {d : Nat} : zMet (d := d) X_X9_sumsOf yX9_sumsOf 17 g_X9_sumsOf_268 := zMet_smM m_X9_sumsOfa ev_X9_sumsOf_268
noncomputable def h0_X9_sumsOf_269 : zH 4 := (show zT 4 from ((zk_99_zs1_99_f04_X9_sumsOf_20, (((0, 456, bg_97), zk_99_zs1_99_f04_X9_sumsOf_13), zk_99_zs1_99_f04_X9_sumsOf_2)), zk_99_zs1_99_f04_X9_sumsOf_21), (11, (0, 0)))
noncomputable def h1_X9_sumsOf_269 : zH 4 := (show zT 4 from ((zk_99_zs1_99_f04_X9_sumsOf_20, (((0, 456, bg_97), zk_99_zs1_99_f04_X9_sumsOf_13), zk_99_zs1_99_f04_X9_sumsOf_2)), zk_99_zs1_99_f04_X9_sumsOf_21), (11, (0, 0)))
theorem ev_X9_sumsOf_269 : f_X9_sumsOfa [zR 1, zR 2] h0_X9_sumsOf_269 (zrk (zU) h1_X9_sumsOf_269) = true := by decide +kernel
noncomputable def g_X9_sumsOf_269 {d : Nat} : List zV → zH d → zP d → Bool := zsmyM [(0, 0), (0, 1), (1, 21), (1, 20), (1, 22), (1, 33), (1, 3), (1, 31), (1, 32), (1, 26), (1, 27)] [zR 1, zR 2] h0_X9_sumsOf_269 (zU) h1_X9_sumsOf_269
theorem mg_X9_sumsOf_269 {d : Nat} : zMet (d := d) X_X9_sumsOf yX9_sumsOf 17 g_X9_sumsOf_269 := zMet_smM m_X9_sumsOfa ev_X9_sumsOf_269
noncomputable def h0_X9_sumsOf_270 : zH 4 := (show zT 4 from ((zk_99_zs1_99_f04_X9_sumsOf_20, (((0, 456, bg_97), zk_99_zs1_99_f04_X9_sumsOf_14), zk_99_zs1_99_f04_X9_sumsOf_2)), zk_99_zs1_99_f04_X9_sumsOf_21), (11, (0, 0)))
noncomputable def h1_X9_sumsOf_270 : zH 4 := (show zT 4 from ((zk_99_zs1_99_f04_X9_sumsOf_20, (((0, 456, bg_97), zk_99_zs1_99_f04_X9_sumsOf_14), zk_99_zs1_99_f04_X9_sumsOf_2)), zk_99_zs1_99_f04_X9_sumsOf_21), (11, (0, 0)))
theorem ev_X9_sumsOf_270 : f_X9_sumsOfa [zR 1, zR 2] h0_X9_sumsOf_270 (zrk (zU) h1_X9_sumsOf_270) = true := by decide +kernel
noncomputable def g_X9_sumsOf_270 {d : Nat} : List zV → zH d → zP d → Bool := zsmyM [(0, 0), (0, 1), (1, 21), (1, 20), (1, 22), (1, 33), (1, 3), (1, 31), (1, 32), (1, 26), (1, 27)] [zR 1, zR 2] h0_X9_sumsOf_270 (zU) h1_X9_sumsOf_270
theorem mg_X9_sumsOf_270 {d : Nat} : zMet (d := d) X_X9_sumsOf yX9_sumsOf 17 g_X9_sumsOf_270 := zMet_smM m_X9_sumsOfa ev_X9_sumsOf_270
noncomputable def h0_X9_sumsOf_271 : zH 4 := (show zT 4 from ((zk_99_zs1_99_f04_X9_sumsOf_20, (((0, 456, bg_97), zk_99_zs1_99_f04_X9_sumsOf_15), zk_99_zs1_99_f04_X9_sumsOf_2)), zk_99_zs1_99_f04_X9_sumsOf_21), (11, (0, 0)))
noncomputable def h1_X9_sumsOf_271 : zH 4 := (show zT 4 from ((zk_99_zs1_99_f04_X9_sumsOf_20, (((0, 456, bg_97), zk_99_zs1_99_f04_X9_sumsOf_15), zk_99_zs1_99_f04_X9_sumsOf_2)), zk_99_zs1_99_f04_X9_sumsOf_21), (11, (0, 0)))
theorem ev_X9_sumsOf_271 : f_X9_sumsOfa [zR 1, zR 2] h0_X9_sumsOf_271 (zrk (zU) h1_X9_sumsOf_271) = true := by decide +kernel
noncomputable def g_X9_sumsOf_271 {d : Nat} : List zV → zH d → zP d → Bool := zsmyM [(0, 0), (0, 1), (1, 21), (1, 20), (1, 22), (1, 33), (1, 3), (1, 31), (1, 32), (1, 26), (1, 27)] [zR 1, zR 2] h0_X9_sumsOf_271 (zU) h1_X9_sumsOf_271
theorem mg_X9_sumsOf_271 {d : Nat} : zMet (d := d) X_X9_sumsOf yX9_sumsOf 17 g_X9_sumsOf_271 := zMet_smM m_X9_sumsOfa ev_X9_sumsOf_271
noncomputable def zk_99_zs1_99_f04_X9_sumsOf_22 : zC := (0, 7, 0x6000000000100000000050000000004000000000300000000020100000000)
noncomputable def h0_X9_sumsOf_272 : zH 4 := (show zT 4 from (((((25, 63, bg_186), (0, 12000, zun 40 12000 4294967296)), ((0, 11, bg_187), (0, 11, bg_188))), (((0, 456, bg_88), zk_99_zs1_99_f04_X9_sumsOf_22), zk_99_zs1_99_f04_X9_sumsOf_2)), (((zk_99_zs1_99_f04_X9_sumsOf_3, (10, 46656, 587)), ((11, 720, 587), (0, 0, 0))), zO2)), (11, (0, 0)))
noncomputable def h1_X9_sumsOf_272 : zH 4 := (show zT 4 from (((((25, 63, bg_186), (0, 12000, zun 40 12000 4294967296)), ((0, 11, bg_187), (0, 11, bg_188))), (((0, 456, bg_88), zk_99_zs1_99_f04_X9_sumsOf_22), zk_99_zs1_99_f04_X9_sumsOf_2)), (((zk_99_zs1_99_f04_X9_sumsOf_3, (10, 46656, 587)), ((11, 720, 587), (0, 0, 0))), zO2)), (11, (0, 0)))
theorem ev_X9_sumsOf_272 : f_X9_sumsOfa [zR 1, zR 2] h0_X9_sumsOf_272 (zrk (zU) h1_X9_sumsOf_272) = true := by decide +kernel
noncomputable def g_X9_sumsOf_272 {d : Nat} : List zV → zH d → zP d → Bool := zsmyM [(0, 0), (0, 1), (1, 21), (1, 20), (1, 22), (1, 33), (1, 3), (1, 31), (1, 32), (1, 26), (1, 27)] [zR 1, zR 2] h0_X9_sumsOf_272 (zU) h1_X9_sumsOf_272
theorem mg_X9_sumsOf_272 {d : Nat} : zMet (d := d) X_X9_sumsOf yX9_sumsOf 17 g_X9_sumsOf_272 := zMet_smM m_X9_sumsOfa ev_X9_sumsOf_272
noncomputable def h0_X9_sumsOf_273 : zH 4 := (show zT 4 from ((zk_99_zs1_99_f04_X9_sumsOf_0, (((0, 456, bg_91), zk_99_zs1_99_f04_X9_sumsOf_22), zk_99_zs1_99_f04_X9_sumsOf_2)), zk_99_zs1_99_f04_X9_sumsOf_4), (11, (0, 0)))
noncomputable def h1_X9_sumsOf_273 : zH 4 := (show zT 4 from ((zk_99_zs1_99_f04_X9_sumsOf_0, (((0, 456, bg_91), zk_99_zs1_99_f04_X9_sumsOf_22), zk_99_zs1_99_f04_X9_sumsOf_2)), zk_99_zs1_99_f04_X9_sumsOf_4), (11, (0, 0)))
theorem ev_X9_sumsOf_273 : f_X9_sumsOfa [zR 1, zR 2] h0_X9_sumsOf_273 (zrk (zU) h1_X9_sumsOf_273) = true := by decide +kernel
noncomputable def g_X9_sumsOf_273 {d : Nat} : List zV → zH d → zP d → Bool := zsmyM [(0, 0), (0, 1), (1, 21), (1, 20), (1, 22), (1, 33), (1, 3), (1, 31), (1, 32), (1, 26), (1, 27)] [zR 1, zR 2] h0_X9_sumsOf_273 (zU) h1_X9_sumsOf_273
theorem mg_X9_sumsOf_273 {d : Nat} : zMet (d := d) X_X9_sumsOf yX9_sumsOf 17 g_X9_sumsOf_273 := zMet_smM m_X9_sumsOfa ev_X9_sumsOf_273
noncomputable def h0_X9_sumsOf_274 : zH 4 := (show zT 4 from ((zk_99_zs1_99_f04_X9_sumsOf_20, (((0, 456, bg_97), zk_99_zs1_99_f04_X9_sumsOf_22), zk_99_zs1_99_f04_X9_sumsOf_2)), zk_99_zs1_99_f04_X9_sumsOf_21), (11, (0, 0)))
noncomputable def h1_X9_sumsOf_274 : zH 4 := (show zT 4 from ((zk_99_zs1_99_f04_X9_sumsOf_20, (((0, 456, bg_97), zk_99_zs1_99_f04_X9_sumsOf_22), zk_99_zs1_99_f04_X9_sumsOf_2)), zk_99_zs1_99_f04_X9_sumsOf_21), (11, (0, 0)))
theorem ev_X9_sumsOf_274 : f_X9_sumsOfa [zR 1, zR 2] h0_X9_sumsOf_274 (zrk (zU) h1_X9_sumsOf_274) = true := by decide +kernel
noncomputable def g_X9_sumsOf_274 {d : Nat} : List zV → zH d → zP d → Bool := zsmyM [(0, 0), (0, 1), (1, 21), (1, 20), (1, 22), (1, 33), (1, 3), (1, 31), (1, 32), (1, 26), (1, 27)] [zR 1, zR 2] h0_X9_sumsOf_274 (zU) h1_X9_sumsOf_274
theorem mg_X9_sumsOf_274 {d : Nat} : zMet (d := d) X_X9_sumsOf yX9_sumsOf 17 g_X9_sumsOf_274 := zMet_smM m_X9_sumsOfa ev_X9_sumsOf_274
noncomputable def zk_99_zs1_99_f04_X9_sumsOf_23 : zT 2 := @Prod.mk (zT 1) (zT 1) ((25, 63, bg_198), (0, 12000, zun 40 12000 4294967296)) ((0, 11, bg_199), (0, 11, bg_200))
noncomputable def zk_99_zs1_99_f04_X9_sumsOf_24 : zT 3 := @Prod.mk (zT 2) (zT 2) ((zk_99_zs1_99_f04_X9_sumsOf_3, (10, 46656, 37449)), ((11, 720, 37449), (0, 0, 0))) zO2
noncomputable def h0_X9_sumsOf_275 : zH 4 := (show zT 4 from ((zk_99_zs1_99_f04_X9_sumsOf_23, (((0, 456, bg_100), zk_99_zs1_99_f04_X9_sumsOf_17), zk_99_zs1_99_f04_X9_sumsOf_2)), zk_99_zs1_99_f04_X9_sumsOf_24), (11, (0, 0)))
noncomputable def h1_X9_sumsOf_275 : zH 4 := (show zT 4 from ((zk_99_zs1_99_f04_X9_sumsOf_23, (((0, 456, bg_100), zk_99_zs1_99_f04_X9_sumsOf_17), zk_99_zs1_99_f04_X9_sumsOf_2)), zk_99_zs1_99_f04_X9_sumsOf_24), (11, (0, 0)))
theorem ev_X9_sumsOf_275 : f_X9_sumsOfa [zR 1, zR 2] h0_X9_sumsOf_275 (zrk (zU) h1_X9_sumsOf_275) = true := by decide +kernel
noncomputable def g_X9_sumsOf_275 {d : Nat} : List zV → zH d → zP d → Bool := zsmyM [(0, 0), (0, 1), (1, 21), (1, 20), (1, 22), (1, 33), (1, 3), (1, 31), (1, 32), (1, 26), (1, 27)] [zR 1, zR 2] h0_X9_sumsOf_275 (zU) h1_X9_sumsOf_275
theorem mg_X9_sumsOf_275 {d : Nat} : zMet (d := d) X_X9_sumsOf yX9_sumsOf 17 g_X9_sumsOf_275 := zMet_smM m_X9_sumsOfa ev_X9_sumsOf_275
noncomputable def h0_X9_sumsOf_276 : zH 4 := (show zT 4 from ((zk_99_zs1_99_f04_X9_sumsOf_23, (((0, 456, bg_100), zk_99_zs1_99_f04_X9_sumsOf_19), zk_99_zs1_99_f04_X9_sumsOf_2)), zk_99_zs1_99_f04_X9_sumsOf_24), (11, (0, 0)))
noncomputable def h1_X9_sumsOf_276 : zH 4 := (show zT 4 from ((zk_99_zs1_99_f04_X9_sumsOf_23, (((0, 456, bg_100), zk_99_zs1_99_f04_X9_sumsOf_19), zk_99_zs1_99_f04_X9_sumsOf_2)), zk_99_zs1_99_f04_X9_sumsOf_24), (11, (0, 0)))
theorem ev_X9_sumsOf_276 : f_X9_sumsOfa [zR 1, zR 2] h0_X9_sumsOf_276 (zrk (zU) h1_X9_sumsOf_276) = true := by decide +kernel
noncomputable def g_X9_sumsOf_276 {d : Nat} : List zV → zH d → zP d → Bool := zsmyM [(0, 0), (0, 1), (1, 21), (1, 20), (1, 22), (1, 33), (1, 3), (1, 31), (1, 32), (1, 26), (1, 27)] [zR 1, zR 2] h0_X9_sumsOf_276 (zU) h1_X9_sumsOf_276
theorem mg_X9_sumsOf_276 {d : Nat} : zMet (d := d) X_X9_sumsOf yX9_sumsOf 17 g_X9_sumsOf_276 := zMet_smM m_X9_sumsOfa ev_X9_sumsOf_276
noncomputable def h0_X9_sumsOf_277 : zH 4 := (show zT 4 from ((zk_99_zs1_99_f04_X9_sumsOf_23, (((0, 456, bg_100), zk_99_zs1_99_f04_X9_sumsOf_1), zk_99_zs1_99_f04_X9_sumsOf_2)), zk_99_zs1_99_f04_X9_sumsOf_24), (11, (0, 0)))
noncomputable def h1_X9_sumsOf_277 : zH 4 := (show zT 4 from ((zk_99_zs1_99_f04_X9_sumsOf_23, (((0, 456, bg_100), zk_99_zs1_99_f04_X9_sumsOf_1), zk_99_zs1_99_f04_X9_sumsOf_2)), zk_99_zs1_99_f04_X9_sumsOf_24), (11, (0, 0)))
theorem ev_X9_sumsOf_277 : f_X9_sumsOfa [zR 1, zR 2] h0_X9_sumsOf_277 (zrk (zU) h1_X9_sumsOf_277) = true := by decide +kernel
noncomputable def g_X9_sumsOf_277 {d : Nat} : List zV → zH d → zP d → Bool := zsmyM [(0, 0), (0, 1), (1, 21), (1, 20), (1, 22), (1, 33), (1, 3), (1, 31), (1, 32), (1, 26), (1, 27)] [zR 1, zR 2] h0_X9_sumsOf_277 (zU) h1_X9_sumsOf_277
theorem mg_X9_sumsOf_277 {d : Nat} : zMet (d := d) X_X9_sumsOf yX9_sumsOf 17 g_X9_sumsOf_277 := zMet_smM m_X9_sumsOfa ev_X9_sumsOf_277
noncomputable def h0_X9_sumsOf_278 : zH 4 := (show zT 4 from ((zk_99_zs1_99_f04_X9_sumsOf_23, (((0, 456, bg_100), zk_99_zs1_99_f04_X9_sumsOf_22), zk_99_zs1_99_f04_X9_sumsOf_2)), zk_99_zs1_99_f04_X9_sumsOf_24), (11, (0, 0)))
noncomputable def h1_X9_sumsOf_278 : zH 4 := (show zT 4 from ((zk_99_zs1_99_f04_X9_sumsOf_23, (((0, 456, bg_100), zk_99_zs1_99_f04_X9_sumsOf_22), zk_99_zs1_99_f04_X9_sumsOf_2)), zk_99_zs1_99_f04_X9_sumsOf_24), (11, (0, 0)))
theorem ev_X9_sumsOf_278 : f_X9_sumsOfa [zR 1, zR 2] h0_X9_sumsOf_278 (zrk (zU) h1_X9_sumsOf_278) = true := by decide +kernel
noncomputable def g_X9_sumsOf_278 {d : Nat} : List zV → zH d → zP d → Bool := zsmyM [(0, 0), (0, 1), (1, 21), (1, 20), (1, 22), (1, 33), (1, 3), (1, 31), (1, 32), (1, 26), (1, 27)] [zR 1, zR 2] h0_X9_sumsOf_278 (zU) h1_X9_sumsOf_278
theorem mg_X9_sumsOf_278 {d : Nat} : zMet (d := d) X_X9_sumsOf yX9_sumsOf 17 g_X9_sumsOf_278 := zMet_smM m_X9_sumsOfa ev_X9_sumsOf_278
noncomputable def h0_X9_sumsOf_279 : zH 4 := (show zT 4 from ((zk_99_zs1_99_f04_X9_sumsOf_23, (((0, 456, bg_100), zk_99_zs1_99_f04_X9_sumsOf_5), zk_99_zs1_99_f04_X9_sumsOf_2)), zk_99_zs1_99_f04_X9_sumsOf_24), (11, (0, 0)))
noncomputable def h1_X9_sumsOf_279 : zH 4 := (show zT 4 from ((zk_99_zs1_99_f04_X9_sumsOf_23, (((0, 456, bg_100), zk_99_zs1_99_f04_X9_sumsOf_5), zk_99_zs1_99_f04_X9_sumsOf_2)), zk_99_zs1_99_f04_X9_sumsOf_24), (11, (0, 0)))
theorem ev_X9_sumsOf_279 : f_X9_sumsOfa [zR 1, zR 2] h0_X9_sumsOf_279 (zrk (zU) h1_X9_sumsOf_279) = true := by decide +kernel
noncomputable def g_X9_sumsOf_279 {d : Nat} : List zV → zH d → zP d → Bool := zsmyM [(0, 0), (0, 1), (1, 21), (1, 20), (1, 22), (1, 33), (1, 3), (1, 31), (1, 32), (1, 26), (1, 27)] [zR 1, zR 2] h0_X9_sumsOf_279 (zU) h1_X9_sumsOf_279
theorem mg_X9_sumsOf_279 {d : Nat} : zMet (d := d) X_X9_sumsOf yX9_sumsOf 17 g_X9_sumsOf_279 := zMet_smM m_X9_sumsOfa ev_X9_sumsOf_279
noncomputable def h0_X9_sumsOf_280 : zH 4 := (show zT 4 from ((zk_99_zs1_99_f04_X9_sumsOf_23, (((0, 456, bg_100), zk_99_zs1_99_f04_X9_sumsOf_6), zk_99_zs1_99_f04_X9_sumsOf_2)), zk_99_zs1_99_f04_X9_sumsOf_24), (11, (0, 0)))
noncomputable def h1_X9_sumsOf_280 : zH 4 := (show zT 4 from ((zk_99_zs1_99_f04_X9_sumsOf_23, (((0, 456, bg_100), zk_99_zs1_99_f04_X9_sumsOf_6), zk_99_zs1_99_f04_X9_sumsOf_2)), zk_99_zs1_99_f04_X9_sumsOf_24), (11, (0, 0)))
theorem ev_X9_sumsOf_280 : f_X9_sumsOfa [zR 1, zR 2] h0_X9_sumsOf_280 (zrk (zU) h1_X9_sumsOf_280) = true := by decide +kernel
noncomputable def g_X9_sumsOf_280 {d : Nat} : List zV → zH d → zP d → Bool := zsmyM [(0, 0), (0, 1), (1, 21), (1, 20), (1, 22), (1, 33), (1, 3), (1, 31), (1, 32), (1, 26), (1, 27)] [zR 1, zR 2] h0_X9_sumsOf_280 (zU) h1_X9_sumsOf_280
theorem mg_X9_sumsOf_280 {d : Nat} : zMet (d := d) X_X9_sumsOf yX9_sumsOf 17 g_X9_sumsOf_280 := zMet_smM m_X9_sumsOfa ev_X9_sumsOf_280
noncomputable def h0_X9_sumsOf_281 : zH 4 := (show zT 4 from ((zk_99_zs1_99_f04_X9_sumsOf_23, (((0, 456, bg_100), zk_99_zs1_99_f04_X9_sumsOf_7), zk_99_zs1_99_f04_X9_sumsOf_2)), zk_99_zs1_99_f04_X9_sumsOf_24), (11, (0, 0)))
noncomputable def h1_X9_sumsOf_281 : zH 4 := (show zT 4 from ((zk_99_zs1_99_f04_X9_sumsOf_23, (((0, 456, bg_100), zk_99_zs1_99_f04_X9_sumsOf_7), zk_99_zs1_99_f04_X9_sumsOf_2)), zk_99_zs1_99_f04_X9_sumsOf_24), (11, (0, 0)))
theorem ev_X9_sumsOf_281 : f_X9_sumsOfa [zR 1, zR 2] h0_X9_sumsOf_281 (zrk (zU) h1_X9_sumsOf_281) = true := by decide +kernel
noncomputable def g_X9_sumsOf_281 {d : Nat} : List zV → zH d → zP d → Bool := zsmyM [(0, 0), (0, 1), (1, 21), (1, 20), (1, 22), (1, 33), (1, 3), (1, 31), (1, 32), (1, 26), (1, 27)] [zR 1, zR 2] h0_X9_sumsOf_281 (zU) h1_X9_sumsOf_281
theorem mg_X9_sumsOf_281 {d : Nat} : zMet (d := d) X_X9_sumsOf yX9_sumsOf 17 g_X9_sumsOf_281 := zMet_smM m_X9_sumsOfa ev_X9_sumsOf_281
noncomputable def h0_X9_sumsOf_282 : zH 4 := (show zT 4 from ((zk_99_zs1_99_f04_X9_sumsOf_23, (((0, 456, bg_100), zk_99_zs1_99_f04_X9_sumsOf_8), zk_99_zs1_99_f04_X9_sumsOf_2)), zk_99_zs1_99_f04_X9_sumsOf_24), (11, (0, 0)))
noncomputable def h1_X9_sumsOf_282 : zH 4 := (show zT 4 from ((zk_99_zs1_99_f04_X9_sumsOf_23, (((0, 456, bg_100), zk_99_zs1_99_f04_X9_sumsOf_8), zk_99_zs1_99_f04_X9_sumsOf_2)), zk_99_zs1_99_f04_X9_sumsOf_24), (11, (0, 0)))
theorem ev_X9_sumsOf_282 : f_X9_sumsOfa [zR 1, zR 2] h0_X9_sumsOf_282 (zrk (zU) h1_X9_sumsOf_282) = true := by decide +kernel
noncomputable def g_X9_sumsOf_282 {d : Nat} : List zV → zH d → zP d → Bool := zsmyM [(0, 0), (0, 1), (1, 21), (1, 20), (1, 22), (1, 33), (1, 3), (1, 31), (1, 32), (1, 26), (1, 27)] [zR 1, zR 2] h0_X9_sumsOf_282 (zU) h1_X9_sumsOf_282
theorem mg_X9_sumsOf_282 {d : Nat} : zMet (d := d) X_X9_sumsOf yX9_sumsOf 17 g_X9_sumsOf_282 := zMet_smM m_X9_sumsOfa ev_X9_sumsOf_282
noncomputable def h0_X9_sumsOf_283 : zH 4 := (show zT 4 from ((zk_99_zs1_99_f04_X9_sumsOf_23, (((0, 456, bg_100), zk_99_zs1_99_f04_X9_sumsOf_9), zk_99_zs1_99_f04_X9_sumsOf_2)), zk_99_zs1_99_f04_X9_sumsOf_24), (11, (0, 0)))
noncomputable def h1_X9_sumsOf_283 : zH 4 := (show zT 4 from ((zk_99_zs1_99_f04_X9_sumsOf_23, (((0, 456, bg_100), zk_99_zs1_99_f04_X9_sumsOf_9), zk_99_zs1_99_f04_X9_sumsOf_2)), zk_99_zs1_99_f04_X9_sumsOf_24), (11, (0, 0)))
theorem ev_X9_sumsOf_283 : f_X9_sumsOfa [zR 1, zR 2] h0_X9_sumsOf_283 (zrk (zU) h1_X9_sumsOf_283) = true := by decide +kernel
noncomputable def g_X9_sumsOf_283 {d : Nat} : List zV → zH d → zP d → Bool := zsmyM [(0, 0), (0, 1), (1, 21), (1, 20), (1, 22), (1, 33), (1, 3), (1, 31), (1, 32), (1, 26), (1, 27)] [zR 1, zR 2] h0_X9_sumsOf_283 (zU) h1_X9_sumsOf_283
theorem mg_X9_sumsOf_283 {d : Nat} : zMet (d := d) X_X9_sumsOf yX9_sumsOf 17 g_X9_sumsOf_283 := zMet_smM m_X9_sumsOfa ev_X9_sumsOf_283
noncomputable def h0_X9_sumsOf_284 : zH 4 := (show zT 4 from ((zk_99_zs1_99_f04_X9_sumsOf_23, (((0, 456, bg_100), zk_99_zs1_99_f04_X9_sumsOf_10), zk_99_zs1_99_f04_X9_sumsOf_2)), zk_99_zs1_99_f04_X9_sumsOf_24), (11, (0, 0)))
noncomputable def h1_X9_sumsOf_284 : zH 4 := (show zT 4 from ((zk_99_zs1_99_f04_X9_sumsOf_23, (((0, 456, bg_100), zk_99_zs1_99_f04_X9_sumsOf_10), zk_99_zs1_99_f04_X9_sumsOf_2)), zk_99_zs1_99_f04_X9_sumsOf_24), (11, (0, 0)))
theorem ev_X9_sumsOf_284 : f_X9_sumsOfa [zR 1, zR 2] h0_X9_sumsOf_284 (zrk (zU) h1_X9_sumsOf_284) = true := by decide +kernel
noncomputable def g_X9_sumsOf_284 {d : Nat} : List zV → zH d → zP d → Bool := zsmyM [(0, 0), (0, 1), (1, 21), (1, 20), (1, 22), (1, 33), (1, 3), (1, 31), (1, 32), (1, 26), (1, 27)] [zR 1, zR 2] h0_X9_sumsOf_284 (zU) h1_X9_sumsOf_284
theorem mg_X9_sumsOf_284 {d : Nat} : zMet (d := d) X_X9_sumsOf yX9_sumsOf 17 g_X9_sumsOf_284 := zMet_smM m_X9_sumsOfa ev_X9_sumsOf_284
noncomputable def h0_X9_sumsOf_285 : zH 4 := (show zT 4 from ((zk_99_zs1_99_f04_X9_sumsOf_23, (((0, 456, bg_100), zk_99_zs1_99_f04_X9_sumsOf_11), zk_99_zs1_99_f04_X9_sumsOf_2)), zk_99_zs1_99_f04_X9_sumsOf_24), (11, (0, 0)))
noncomputable def h1_X9_sumsOf_285 : zH 4 := (show zT 4 from ((zk_99_zs1_99_f04_X9_sumsOf_23, (((0, 456, bg_100), zk_99_zs1_99_f04_X9_sumsOf_11), zk_99_zs1_99_f04_X9_sumsOf_2)), zk_99_zs1_99_f04_X9_sumsOf_24), (11, (0, 0)))
theorem ev_X9_sumsOf_285 : f_X9_sumsOfa [zR 1, zR 2] h0_X9_sumsOf_285 (zrk (zU) h1_X9_sumsOf_285) = true := by decide +kernel
noncomputable def g_X9_sumsOf_285 {d : Nat} : List zV → zH d → zP d → Bool := zsmyM [(0, 0), (0, 1), (1, 21), (1, 20), (1, 22), (1, 33), (1, 3), (1, 31), (1, 32), (1, 26), (1, 27)] [zR 1, zR 2] h0_X9_sumsOf_285 (zU) h1_X9_sumsOf_285
theorem mg_X9_sumsOf_285 {d : Nat} : zMet (d := d) X_X9_sumsOf yX9_sumsOf 17 g_X9_sumsOf_285 := zMet_smM m_X9_sumsOfa ev_X9_sumsOf_285
noncomputable def h0_X9_sumsOf_286 : zH 4 := (show zT 4 from ((zk_99_zs1_99_f04_X9_sumsOf_23, (((0, 456, bg_100), zk_99_zs1_99_f04_X9_sumsOf_12), zk_99_zs1_99_f04_X9_sumsOf_2)), zk_99_zs1_99_f04_X9_sumsOf_24), (11, (0, 0)))
noncomputable def h1_X9_sumsOf_286 : zH 4 := (show zT 4 from ((zk_99_zs1_99_f04_X9_sumsOf_23, (((0, 456, bg_100), zk_99_zs1_99_f04_X9_sumsOf_12), zk_99_zs1_99_f04_X9_sumsOf_2)), zk_99_zs1_99_f04_X9_sumsOf_24), (11, (0, 0)))
theorem ev_X9_sumsOf_286 : f_X9_sumsOfa [zR 1, zR 2] h0_X9_sumsOf_286 (zrk (zU) h1_X9_sumsOf_286) = true := by decide +kernel
noncomputable def g_X9_sumsOf_286 {d : Nat} : List zV → zH d → zP d → Bool := zsmyM [(0, 0), (0, 1), (1, 21), (1, 20), (1, 22), (1, 33), (1, 3), (1, 31), (1, 32), (1, 26), (1, 27)] [zR 1, zR 2] h0_X9_sumsOf_286 (zU) h1_X9_sumsOf_286
theorem mg_X9_sumsOf_286 {d : Nat} : zMet (d := d) X_X9_sumsOf yX9_sumsOf 17 g_X9_sumsOf_286 := zMet_smM m_X9_sumsOfa ev_X9_sumsOf_286
noncomputable def h0_X9_sumsOf_287 : zH 4 := (show zT 4 from ((zk_99_zs1_99_f04_X9_sumsOf_23, (((0, 456, bg_100), zk_99_zs1_99_f04_X9_sumsOf_13), zk_99_zs1_99_f04_X9_sumsOf_2)), zk_99_zs1_99_f04_X9_sumsOf_24), (11, (0, 0)))
noncomputable def h1_X9_sumsOf_287 : zH 4 := (show zT 4 from ((zk_99_zs1_99_f04_X9_sumsOf_23, (((0, 456, bg_100), zk_99_zs1_99_f04_X9_sumsOf_13), zk_99_zs1_99_f04_X9_sumsOf_2)), zk_99_zs1_99_f04_X9_sumsOf_24), (11, (0, 0)))
theorem ev_X9_sumsOf_287 : f_X9_sumsOfa [zR 1, zR 2] h0_X9_sumsOf_287 (zrk (zU) h1_X9_sumsOf_287) = true := by decide +kernel
noncomputable def g_X9_sumsOf_287 {d : Nat} : List zV → zH d → zP d → Bool := zsmyM [(0, 0), (0, 1), (1, 21), (1, 20), (1, 22), (1, 33), (1, 3), (1, 31), (1, 32), (1, 26), (1, 27)] [zR 1, zR 2] h0_X9_sumsOf_287 (zU) h1_X9_sumsOf_287
theorem mg_X9_sumsOf_287 {d : Nat} : zMet (d := d) X_X9_sumsOf yX9_sumsOf 17 g_X9_sumsOf_287 := zMet_smM m_X9_sumsOfa ev_X9_sumsOf_287
noncomputable def h0_X9_sumsOf_288 : zH 4 := (show zT 4 from ((zk_99_zs1_99_f04_X9_sumsOf_23, (((0, 456, bg_100), zk_99_zs1_99_f04_X9_sumsOf_14), zk_99_zs1_99_f04_X9_sumsOf_2)), zk_99_zs1_99_f04_X9_sumsOf_24), (11, (0, 0)))
noncomputable def h1_X9_sumsOf_288 : zH 4 := (show zT 4 from ((zk_99_zs1_99_f04_X9_sumsOf_23, (((0, 456, bg_100), zk_99_zs1_99_f04_X9_sumsOf_14), zk_99_zs1_99_f04_X9_sumsOf_2)), zk_99_zs1_99_f04_X9_sumsOf_24), (11, (0, 0)))
theorem ev_X9_sumsOf_288 : f_X9_sumsOfa [zR 1, zR 2] h0_X9_sumsOf_288 (zrk (zU) h1_X9_sumsOf_288) = true := by decide +kernel
noncomputable def g_X9_sumsOf_288 {d : Nat} : List zV → zH d → zP d → Bool := zsmyM [(0, 0), (0, 1), (1, 21), (1, 20), (1, 22), (1, 33), (1, 3), (1, 31), (1, 32), (1, 26), (1, 27)] [zR 1, zR 2] h0_X9_sumsOf_288 (zU) h1_X9_sumsOf_288
theorem mg_X9_sumsOf_288 {d : Nat} : zMet (d := d) X_X9_sumsOf yX9_sumsOf 17 g_X9_sumsOf_288 := zMet_smM m_X9_sumsOfa ev_X9_sumsOf_288
noncomputable def h0_X9_sumsOf_289 : zH 4 := (show zT 4 from ((zk_99_zs1_99_f04_X9_sumsOf_23, (((0, 456, bg_100), zk_99_zs1_99_f04_X9_sumsOf_15), zk_99_zs1_99_f04_X9_sumsOf_2)), zk_99_zs1_99_f04_X9_sumsOf_24), (11, (0, 0)))
noncomputable def h1_X9_sumsOf_289 : zH 4 := (show zT 4 from ((zk_99_zs1_99_f04_X9_sumsOf_23, (((0, 456, bg_100), zk_99_zs1_99_f04_X9_sumsOf_15), zk_99_zs1_99_f04_X9_sumsOf_2)), zk_99_zs1_99_f04_X9_sumsOf_24), (11, (0, 0)))
theorem ev_X9_sumsOf_289 : f_X9_sumsOfa [zR 1, zR 2] h0_X9_sumsOf_289 (zrk (zU) h1_X9_sumsOf_289) = true := by decide +kernel
noncomputable def g_X9_sumsOf_289 {d : Nat} : List zV → zH d → zP d → Bool := zsmyM [(0, 0), (0, 1), (1, 21), (1, 20), (1, 22), (1, 33), (1, 3), (1, 31), (1, 32), (1, 26), (1, 27)] [zR 1, zR 2] h0_X9_sumsOf_289 (zU) h1_X9_sumsOf_289
theorem mg_X9_sumsOf_289 {d : Nat} : zMet (d := d) X_X9_sumsOf yX9_sumsOf 17 g_X9_sumsOf_289 := zMet_smM m_X9_sumsOfa ev_X9_sumsOf_289
set_option maxRecDepth 100000 in
noncomputable def gs_X9_sumsOf {d : Nat} : List zV → zH d → zP d → Bool := zwt (hsK (hsK (hsK (hsK (hsK (hsK (hsK (hsF 0 [] 0) (hsF 0 [] 25)) (hsF 0 [33] 1)) (hsF 0 [33] 2)) (hsF 0 [33] 3)) (hsF 0 [33] 4)) (hsF 0 [33] 5)) (hsF 0 [33] 6)) [(7089321091629284589568, g_X9_sumsOf_0), (3547546232775585562624, g_X9_sumsOf_1), (3548699154280192409600, g_X9_sumsOf_2), (3547547357575980777472, g_X9_sumsOf_3), (3548700279080587624448, g_X9_sumsOf_4), (4723526167478864445440, g_X9_sumsOf_5), (4723527294476135432192, g_X9_sumsOf_6), (4724679088983471292416, g_X9_sumsOf_7), (4724680215980742279168, g_X9_sumsOf_8), (4725832010488078139392, g_X9_sumsOf_9), (4723527292279259660288, g_X9_sumsOf_10), (4724680213783866507264, g_X9_sumsOf_11), (4725833137485349126144, g_X9_sumsOf_12), (4725833135288473354240, g_X9_sumsOf_13), (5904113284596653621248, g_X9_sumsOf_14), (5904114411593924608000, g_X9_sumsOf_15), (5905266206101260468224, g_X9_sumsOf_16), (5905267333098531454976, g_X9_sumsOf_17), (5906419127605867315200, g_X9_sumsOf_18), (5907572049110474162176, g_X9_sumsOf_19), (5908724970615081009152, g_X9_sumsOf_20), (5904114411597142687744, g_X9_sumsOf_21), (5904115538593340981248, g_X9_sumsOf_22), (5904114409398121529344, g_X9_sumsOf_23), (5904114409397048836096, g_X9_sumsOf_24), (5905267333101749534720, g_X9_sumsOf_25), (5905268460097947828224, g_X9_sumsOf_26), (5905267330902728376320, g_X9_sumsOf_27), (5905267330901655683072, g_X9_sumsOf_28), (5906420254606356381696, g_X9_sumsOf_29), (5906421381602554675200, g_X9_sumsOf_30), (5906420252407335223296, g_X9_sumsOf_31), (5906420252406262530048, g_X9_sumsOf_32), (5907573176110963228672, g_X9_sumsOf_33), (5907574303107161522176, g_X9_sumsOf_34), (5907573173911942070272, g_X9_sumsOf_35), (5907573173910869377024, g_X9_sumsOf_36), (5906420254603138301952, g_X9_sumsOf_37), (5907573176107745148928, g_X9_sumsOf_38), (5908726097615570075648, g_X9_sumsOf_39), (5908727224611768369152, g_X9_sumsOf_40), (5908726097612351995904, g_X9_sumsOf_41), (5908726095416548917248, g_X9_sumsOf_42), (5908726095415476224000, g_X9_sumsOf_43), (7084704900916018419712, g_X9_sumsOf_44), (7084706027916511676416, g_X9_sumsOf_45), (7084706027913289406464, g_X9_sumsOf_46), (7085857822420625266688, g_X9_sumsOf_47), (7085858949421118523392, g_X9_sumsOf_48), (7085858949417896253440, g_X9_sumsOf_49), (7087010743925232113664, g_X9_sumsOf_50), (7087011870925725370368, g_X9_sumsOf_51), (7087011870922503100416, g_X9_sumsOf_52), (7088163665429838960640, g_X9_sumsOf_53), (7089316586934445807616, g_X9_sumsOf_54), (7090469508439052654592, g_X9_sumsOf_55), (7091622429943659501568, g_X9_sumsOf_56), (7084706027916507486208, g_X9_sumsOf_57), (7084707154912705779712, g_X9_sumsOf_58), (7084706025717486327808, g_X9_sumsOf_59), (7084706025716413634560, g_X9_sumsOf_60), (7085858949421114333184, g_X9_sumsOf_61), (7085860076417312626688, g_X9_sumsOf_62), (7085858947222093174784, g_X9_sumsOf_63), (7085858947221020481536, g_X9_sumsOf_64), (7087011870925721180160, g_X9_sumsOf_65), (7087012997921919473664, g_X9_sumsOf_66), (7087011868726700021760, g_X9_sumsOf_67), (7087011868725627328512, g_X9_sumsOf_68), (7088164792430332217344, g_X9_sumsOf_69), (7088164792430328027136, g_X9_sumsOf_70), (7088165919426526320640, g_X9_sumsOf_71), (7088164790231306868736, g_X9_sumsOf_72), (7088164790230234175488, g_X9_sumsOf_73), (7089317713934939064320, g_X9_sumsOf_74), (7089317713934934874112, g_X9_sumsOf_75), (7089318840931133167616, g_X9_sumsOf_76), (7089317711735913715712, g_X9_sumsOf_77), (7089317711734841022464, g_X9_sumsOf_78), (7084706027913290454016, g_X9_sumsOf_79), (7084707151615246735360, g_X9_sumsOf_80), (7084704900916019467264, g_X9_sumsOf_81), (7085858949417897300992, g_X9_sumsOf_82), (7085860073119853582336, g_X9_sumsOf_83), (7085857822420626314240, g_X9_sumsOf_84), (7087011870922504147968, g_X9_sumsOf_85), (7087012994624460429312, g_X9_sumsOf_86), (7087010743925233161216, g_X9_sumsOf_87), (7088164792427110994944, g_X9_sumsOf_88), (7088165916129067276288, g_X9_sumsOf_89), (7088163665429840008192, g_X9_sumsOf_90), (7088164792427109947392, g_X9_sumsOf_91), (7089317713931717841920, g_X9_sumsOf_92), (7089318837633674123264, g_X9_sumsOf_93), (7089316586934446855168, g_X9_sumsOf_94), (7089317713931716794368, g_X9_sumsOf_95), (7090470635439541721088, g_X9_sumsOf_96), (7090471762435740014592, g_X9_sumsOf_97), (7090470635436324688896, g_X9_sumsOf_98), (7090471759138280970240, g_X9_sumsOf_99), (7090469508439053702144, g_X9_sumsOf_100), (7090470635436323641344, g_X9_sumsOf_101), (7090470633240520562688, g_X9_sumsOf_102), (7090470633239447869440, g_X9_sumsOf_103), (7090470635439545911296, g_X9_sumsOf_104), (7091623556944152758272, g_X9_sumsOf_105), (7091623556944148568064, g_X9_sumsOf_106), (7091624683940346861568, g_X9_sumsOf_107), (7091623556940931535872, g_X9_sumsOf_108), (7091624680642887817216, g_X9_sumsOf_109), (7091622429943660549120, g_X9_sumsOf_110), (7091623556940930488320, g_X9_sumsOf_111), (7091623554745127409664, g_X9_sumsOf_112), (7091623554744054716416, g_X9_sumsOf_113), (8265296521629134755847, g_X9_sumsOf_114), (8265297648629628012551, g_X9_sumsOf_115), (8265297648626406792197, g_X9_sumsOf_116), (8265297648626405742599, g_X9_sumsOf_117), (8266449443133741602823, g_X9_sumsOf_118), (8266450570134234859527, g_X9_sumsOf_119), (8266450570131013639173, g_X9_sumsOf_120), (8266450570131012589575, g_X9_sumsOf_121), (8267602364638348449799, g_X9_sumsOf_122), (8267603491638841706503, g_X9_sumsOf_123), (8267603491635620486149, g_X9_sumsOf_124), (8267603491635619436551, g_X9_sumsOf_125), (8268755286142955296775, g_X9_sumsOf_126), (8269908207647562143751, g_X9_sumsOf_127), (8271061129152168990727, g_X9_sumsOf_128), (8271062256152662247431, g_X9_sumsOf_129), (8271062256149441027077, g_X9_sumsOf_130), (8271062256149439977479, g_X9_sumsOf_131), (8272214050656775837703, g_X9_sumsOf_132), (8273366972161382684679, g_X9_sumsOf_133), (8274519893665989531655, g_X9_sumsOf_134), (8275672815170596378631, g_X9_sumsOf_135), (8276825736675203225607, g_X9_sumsOf_136), (8265297648629623823366, g_X9_sumsOf_137), (8265298775625822115847, g_X9_sumsOf_138), (8265297648629623822343, g_X9_sumsOf_139), (8265297646430602664966, g_X9_sumsOf_140), (8265297646430602663943, g_X9_sumsOf_141), (8265297646429529970695, g_X9_sumsOf_142), (8266450570134230670342, g_X9_sumsOf_143), (8266451697130428962823, g_X9_sumsOf_144), (8266450570134230669319, g_X9_sumsOf_145), (8266450567935209511942, g_X9_sumsOf_146), (8266450567935209510919, g_X9_sumsOf_147), (8266450567934136817671, g_X9_sumsOf_148), (8267603491638837517318, g_X9_sumsOf_149), (8267604618635035809799, g_X9_sumsOf_150), (8267603491638837516295, g_X9_sumsOf_151), (8267603489439816358918, g_X9_sumsOf_152), (8267603489439816357895, g_X9_sumsOf_153), (8267603489438743664647, g_X9_sumsOf_154), (8268756413143448553479, g_X9_sumsOf_155), (8268756413143444364294, g_X9_sumsOf_156), (8268757540139642656775, g_X9_sumsOf_157), (8268756413143444363271, g_X9_sumsOf_158), (8268756410944423205894, g_X9_sumsOf_159), (8268756410944423204871, g_X9_sumsOf_160), (8268756410943350511623, g_X9_sumsOf_161), (8269909334648055400455, g_X9_sumsOf_162), (8269909334648051211270, g_X9_sumsOf_163), (8269910461644249503751, g_X9_sumsOf_164), (8269909334648051210247, g_X9_sumsOf_165), (8269909332449030052870, g_X9_sumsOf_166), (8269909332449030051847, g_X9_sumsOf_167), (8269909332447957358599, g_X9_sumsOf_168), (8271062256152658058246, g_X9_sumsOf_169), (8271063383148856350727, g_X9_sumsOf_170), (8271062256152658057223, g_X9_sumsOf_171), (8271062253953636899846, g_X9_sumsOf_172), (8271062253953636898823, g_X9_sumsOf_173), (8271062253952564205575, g_X9_sumsOf_174), (8274521020666482788359, g_X9_sumsOf_175), (8274521020666478599174, g_X9_sumsOf_176), (8274522147662676891655, g_X9_sumsOf_177), (8274521020666478598151, g_X9_sumsOf_178), (8274521018467457440774, g_X9_sumsOf_179), (8274521018467457439751, g_X9_sumsOf_180), (8274521018466384746503, g_X9_sumsOf_181), (8265297648629628017666, g_X9_sumsOf_182), (8265298775630121273347, g_X9_sumsOf_183), (8265299902630608243716, g_X9_sumsOf_184), (8265297648626406790151, g_X9_sumsOf_185), (8265298772328363071495, g_X9_sumsOf_186), (8265296521629135803399, g_X9_sumsOf_187), (8266450570134234864642, g_X9_sumsOf_188), (8266451697134728120323, g_X9_sumsOf_189), (8266452824135215090692, g_X9_sumsOf_190), (8266450570131013637127, g_X9_sumsOf_191), (8266451693832969918471, g_X9_sumsOf_192), (8266449443133742650375, g_X9_sumsOf_193), (8267603491638841711618, g_X9_sumsOf_194), (8267604618639334967299, g_X9_sumsOf_195), (8267605745639821937668, g_X9_sumsOf_196), (8267603491635620484103, g_X9_sumsOf_197), (8267604615337576765447, g_X9_sumsOf_198), (8267602364638349497351, g_X9_sumsOf_199), (8268756413143448558594, g_X9_sumsOf_200), (8268757540143941814275, g_X9_sumsOf_201), (8268758667144428784644, g_X9_sumsOf_202), (8268756413140227333125, g_X9_sumsOf_203), (8268756413140227331079, g_X9_sumsOf_204), (8268757536842183612423, g_X9_sumsOf_205), (8268755286142956344327, g_X9_sumsOf_206), (8268756413140226283527, g_X9_sumsOf_207), (8269909334648055405570, g_X9_sumsOf_208), (8269910461648548661251, g_X9_sumsOf_209), (8269911588649035631620, g_X9_sumsOf_210), (8269909334644834180101, g_X9_sumsOf_211), (8269909334644834178055, g_X9_sumsOf_212), (8269910458346790459399, g_X9_sumsOf_213), (8269908207647563191303, g_X9_sumsOf_214), (8269909334644833130503, g_X9_sumsOf_215), (8271062256152662252546, g_X9_sumsOf_216), (8271063383153155508227, g_X9_sumsOf_217), (8271064510153642478596, g_X9_sumsOf_218), (8271062256149441025031, g_X9_sumsOf_219), (8271063379851397306375, g_X9_sumsOf_220), (8271061129152170038279, g_X9_sumsOf_221), (8272215177657269099522, g_X9_sumsOf_222), (8272216304657762355203, g_X9_sumsOf_223), (8272217431658249325572, g_X9_sumsOf_224), (8272215177657264905222, g_X9_sumsOf_225), (8272216304653463197703, g_X9_sumsOf_226), (8272215177657264904199, g_X9_sumsOf_227), (8272215177654047874053, g_X9_sumsOf_228), (8272215177654047872007, g_X9_sumsOf_229), (8272216301356004153351, g_X9_sumsOf_230), (8272214050656776885255, g_X9_sumsOf_231), (8272215177654046824455, g_X9_sumsOf_232), (8272215175458243746822, g_X9_sumsOf_233), (8272215175458243745799, g_X9_sumsOf_234), (8272215175457171052551, g_X9_sumsOf_235), (8273368099161875946498, g_X9_sumsOf_236), (8273369226162369202179, g_X9_sumsOf_237), (8273370353162856172548, g_X9_sumsOf_238), (8273368099161871752198, g_X9_sumsOf_239), (8273369226158070044679, g_X9_sumsOf_240), (8273368099161871751175, g_X9_sumsOf_241), (8273368099158654721029, g_X9_sumsOf_242), (8273368099158654718983, g_X9_sumsOf_243), (8273369222860611000327, g_X9_sumsOf_244), (8273366972161383732231, g_X9_sumsOf_245), (8273368099158653671431, g_X9_sumsOf_246), (8273368096962850593798, g_X9_sumsOf_247), (8273368096962850592775, g_X9_sumsOf_248), (8273368096961777899527, g_X9_sumsOf_249), (8274521020666482793474, g_X9_sumsOf_250), (8274522147666976049155, g_X9_sumsOf_251), (8274523274667463019524, g_X9_sumsOf_252), (8274521020663261568005, g_X9_sumsOf_253), (8274521020663261565959, g_X9_sumsOf_254), (8274522144365217847303, g_X9_sumsOf_255), (8274519893665990579207, g_X9_sumsOf_256), (8274521020663260518407, g_X9_sumsOf_257), (8275673942171089640450, g_X9_sumsOf_258), (8275675069171582896131, g_X9_sumsOf_259), (8275676196172069866500, g_X9_sumsOf_260), (8275673942171085446150, g_X9_sumsOf_261), (8275675069167283738631, g_X9_sumsOf_262), (8275673942171085445127, g_X9_sumsOf_263), (8275673942167868414981, g_X9_sumsOf_264), (8275673942167868412935, g_X9_sumsOf_265), (8275675065869824694279, g_X9_sumsOf_266), (8275672815170597426183, g_X9_sumsOf_267), (8275673942167867365383, g_X9_sumsOf_268), (8275673939972064287750, g_X9_sumsOf_269), (8275673939972064286727, g_X9_sumsOf_270), (8275673939970991593479, g_X9_sumsOf_271), (8272215177657269094407, g_X9_sumsOf_272), (8273368099161875941383, g_X9_sumsOf_273), (8275673942171089635335, g_X9_sumsOf_274), (8276826863675696487426, g_X9_sumsOf_275), (8276827990676189743107, g_X9_sumsOf_276), (8276829117676676713476, g_X9_sumsOf_277), (8276826863675696482311, g_X9_sumsOf_278), (8276826863675692293126, g_X9_sumsOf_279), (8276827990671890585607, g_X9_sumsOf_280), (8276826863675692292103, g_X9_sumsOf_281), (8276826863672475261957, g_X9_sumsOf_282), (8276826863672475259911, g_X9_sumsOf_283), (8276827987374431541255, g_X9_sumsOf_284), (8276825736675204273159, g_X9_sumsOf_285), (8276826863672474212359, g_X9_sumsOf_286), (8276826861476671134726, g_X9_sumsOf_287), (8276826861476671133703, g_X9_sumsOf_288), (8276826861475598440455, g_X9_sumsOf_289)]
set_option maxRecDepth 100000 in
theorem mgs_X9_sumsOf {d : Nat} : zMet (d := d) X_X9_sumsOf yX9_sumsOf 17 gs_X9_sumsOf := zMet_wt (hsK_ok (hsK_ok (hsK_ok (hsK_ok (hsK_ok (hsK_ok (hsK_ok hsF_ok hsF_ok) hsF_ok) hsF_ok) hsF_ok) hsF_ok) hsF_ok) hsF_ok) (zwt_c mg_X9_sumsOf_0 (zwt_c mg_X9_sumsOf_1 (zwt_c mg_X9_sumsOf_2 (zwt_c mg_X9_sumsOf_3 (zwt_c mg_X9_sumsOf_4 (zwt_c mg_X9_sumsOf_5 (zwt_c mg_X9_sumsOf_6 (zwt_c mg_X9_sumsOf_7 (zwt_c mg_X9_sumsOf_8 (zwt_c mg_X9_sumsOf_9 (zwt_c mg_X9_sumsOf_10 (zwt_c mg_X9_sumsOf_11 (zwt_c mg_X9_sumsOf_12 (zwt_c mg_X9_sumsOf_13 (zwt_c mg_X9_sumsOf_14 (zwt_c mg_X9_sumsOf_15 (zwt_c mg_X9_sumsOf_16 (zwt_c mg_X9_sumsOf_17 (zwt_c mg_X9_sumsOf_18 (zwt_c mg_X9_sumsOf_19 (zwt_c mg_X9_sumsOf_20 (zwt_c mg_X9_sumsOf_21 (zwt_c mg_X9_sumsOf_22 (zwt_c mg_X9_sumsOf_23 (zwt_c mg_X9_sumsOf_24 (zwt_c mg_X9_sumsOf_25 (zwt_c mg_X9_sumsOf_26 (zwt_c mg_X9_sumsOf_27 (zwt_c mg_X9_sumsOf_28 (zwt_c mg_X9_sumsOf_29 (zwt_c mg_X9_sumsOf_30 (zwt_c mg_X9_sumsOf_31 (zwt_c mg_X9_sumsOf_32 (zwt_c mg_X9_sumsOf_33 (zwt_c mg_X9_sumsOf_34 (zwt_c mg_X9_sumsOf_35 (zwt_c mg_X9_sumsOf_36 (zwt_c mg_X9_sumsOf_37 (zwt_c mg_X9_sumsOf_38 (zwt_c mg_X9_sumsOf_39 (zwt_c mg_X9_sumsOf_40 (zwt_c mg_X9_sumsOf_41 (zwt_c mg_X9_sumsOf_42 (zwt_c mg_X9_sumsOf_43 (zwt_c mg_X9_sumsOf_44 (zwt_c mg_X9_sumsOf_45 (zwt_c mg_X9_sumsOf_46 (zwt_c mg_X9_sumsOf_47 (zwt_c mg_X9_sumsOf_48 (zwt_c mg_X9_sumsOf_49 (zwt_c mg_X9_sumsOf_50 (zwt_c mg_X9_sumsOf_51 (zwt_c mg_X9_sumsOf_52 (zwt_c mg_X9_sumsOf_53 (zwt_c mg_X9_sumsOf_54 (zwt_c mg_X9_sumsOf_55 (zwt_c mg_X9_sumsOf_56 (zwt_c mg_X9_sumsOf_57 (zwt_c mg_X9_sumsOf_58 (zwt_c mg_X9_sumsOf_59 (zwt_c mg_X9_sumsOf_60 (zwt_c mg_X9_sumsOf_61 (zwt_c mg_X9_sumsOf_62 (zwt_c mg_X9_sumsOf_63 (zwt_c mg_X9_sumsOf_64 (zwt_c mg_X9_sumsOf_65 (zwt_c mg_X9_sumsOf_66 (zwt_c mg_X9_sumsOf_67 (zwt_c mg_X9_sumsOf_68 (zwt_c mg_X9_sumsOf_69 (zwt_c mg_X9_sumsOf_70 (zwt_c mg_X9_sumsOf_71 (zwt_c mg_X9_sumsOf_72 (zwt_c mg_X9_sumsOf_73 (zwt_c mg_X9_sumsOf_74 (zwt_c mg_X9_sumsOf_75 (zwt_c mg_X9_sumsOf_76 (zwt_c mg_X9_sumsOf_77 (zwt_c mg_X9_sumsOf_78 (zwt_c mg_X9_sumsOf_79 (zwt_c mg_X9_sumsOf_80 (zwt_c mg_X9_sumsOf_81 (zwt_c mg_X9_sumsOf_82 (zwt_c mg_X9_sumsOf_83 (zwt_c mg_X9_sumsOf_84 (zwt_c mg_X9_sumsOf_85 (zwt_c mg_X9_sumsOf_86 (zwt_c mg_X9_sumsOf_87 (zwt_c mg_X9_sumsOf_88 (zwt_c mg_X9_sumsOf_89 (zwt_c mg_X9_sumsOf_90 (zwt_c mg_X9_sumsOf_91 (zwt_c mg_X9_sumsOf_92 (zwt_c mg_X9_sumsOf_93 (zwt_c mg_X9_sumsOf_94 (zwt_c mg_X9_sumsOf_95 (zwt_c mg_X9_sumsOf_96 (zwt_c mg_X9_sumsOf_97 (zwt_c mg_X9_sumsOf_98 (zwt_c mg_X9_sumsOf_99 (zwt_c mg_X9_sumsOf_100 (zwt_c mg_X9_sumsOf_101 (zwt_c mg_X9_sumsOf_102 (zwt_c mg_X9_sumsOf_103 (zwt_c mg_X9_sumsOf_104 (zwt_c mg_X9_sumsOf_105 (zwt_c mg_X9_sumsOf_106 (zwt_c mg_X9_sumsOf_107 (zwt_c mg_X9_sumsOf_108 (zwt_c mg_X9_sumsOf_109 (zwt_c mg_X9_sumsOf_110 (zwt_c mg_X9_sumsOf_111 (zwt_c mg_X9_sumsOf_112 (zwt_c mg_X9_sumsOf_113 (zwt_c mg_X9_sumsOf_114 (zwt_c mg_X9_sumsOf_115 (zwt_c mg_X9_sumsOf_116 (zwt_c mg_X9_sumsOf_117 (zwt_c mg_X9_sumsOf_118 (zwt_c mg_X9_sumsOf_119 (zwt_c mg_X9_sumsOf_120 (zwt_c mg_X9_sumsOf_121 (zwt_c mg_X9_sumsOf_122 (zwt_c mg_X9_sumsOf_123 (zwt_c mg_X9_sumsOf_124 (zwt_c mg_X9_sumsOf_125 (zwt_c mg_X9_sumsOf_126 (zwt_c mg_X9_sumsOf_127 (zwt_c mg_X9_sumsOf_128 (zwt_c mg_X9_sumsOf_129 (zwt_c mg_X9_sumsOf_130 (zwt_c mg_X9_sumsOf_131 (zwt_c mg_X9_sumsOf_132 (zwt_c mg_X9_sumsOf_133 (zwt_c mg_X9_sumsOf_134 (zwt_c mg_X9_sumsOf_135 (zwt_c mg_X9_sumsOf_136 (zwt_c mg_X9_sumsOf_137 (zwt_c mg_X9_sumsOf_138 (zwt_c mg_X9_sumsOf_139 (zwt_c mg_X9_sumsOf_140 (zwt_c mg_X9_sumsOf_141 (zwt_c mg_X9_sumsOf_142 (zwt_c mg_X9_sumsOf_143 (zwt_c mg_X9_sumsOf_144 (zwt_c mg_X9_sumsOf_145 (zwt_c mg_X9_sumsOf_146 (zwt_c mg_X9_sumsOf_147 (zwt_c mg_X9_sumsOf_148 (zwt_c mg_X9_sumsOf_149 (zwt_c mg_X9_sumsOf_150 (zwt_c mg_X9_sumsOf_151 (zwt_c mg_X9_sumsOf_152 (zwt_c mg_X9_sumsOf_153 (zwt_c mg_X9_sumsOf_154 (zwt_c mg_X9_sumsOf_155 (zwt_c mg_X9_sumsOf_156 (zwt_c mg_X9_sumsOf_157 (zwt_c mg_X9_sumsOf_158 (zwt_c mg_X9_sumsOf_159 (zwt_c mg_X9_sumsOf_160 (zwt_c mg_X9_sumsOf_161 (zwt_c mg_X9_sumsOf_162 (zwt_c mg_X9_sumsOf_163 (zwt_c mg_X9_sumsOf_164 (zwt_c mg_X9_sumsOf_165 (zwt_c mg_X9_sumsOf_166 (zwt_c mg_X9_sumsOf_167 (zwt_c mg_X9_sumsOf_168 (zwt_c mg_X9_sumsOf_169 (zwt_c mg_X9_sumsOf_170 (zwt_c mg_X9_sumsOf_171 (zwt_c mg_X9_sumsOf_172 (zwt_c mg_X9_sumsOf_173 (zwt_c mg_X9_sumsOf_174 (zwt_c mg_X9_sumsOf_175 (zwt_c mg_X9_sumsOf_176 (zwt_c mg_X9_sumsOf_177 (zwt_c mg_X9_sumsOf_178 (zwt_c mg_X9_sumsOf_179 (zwt_c mg_X9_sumsOf_180 (zwt_c mg_X9_sumsOf_181 (zwt_c mg_X9_sumsOf_182 (zwt_c mg_X9_sumsOf_183 (zwt_c mg_X9_sumsOf_184 (zwt_c mg_X9_sumsOf_185 (zwt_c mg_X9_sumsOf_186 (zwt_c mg_X9_sumsOf_187 (zwt_c mg_X9_sumsOf_188 (zwt_c mg_X9_sumsOf_189 (zwt_c mg_X9_sumsOf_190 (zwt_c mg_X9_sumsOf_191 (zwt_c mg_X9_sumsOf_192 (zwt_c mg_X9_sumsOf_193 (zwt_c mg_X9_sumsOf_194 (zwt_c mg_X9_sumsOf_195 (zwt_c mg_X9_sumsOf_196 (zwt_c mg_X9_sumsOf_197 (zwt_c mg_X9_sumsOf_198 (zwt_c mg_X9_sumsOf_199 (zwt_c mg_X9_sumsOf_200 (zwt_c mg_X9_sumsOf_201 (zwt_c mg_X9_sumsOf_202 (zwt_c mg_X9_sumsOf_203 (zwt_c mg_X9_sumsOf_204 (zwt_c mg_X9_sumsOf_205 (zwt_c mg_X9_sumsOf_206 (zwt_c mg_X9_sumsOf_207 (zwt_c mg_X9_sumsOf_208 (zwt_c mg_X9_sumsOf_209 (zwt_c mg_X9_sumsOf_210 (zwt_c mg_X9_sumsOf_211 (zwt_c mg_X9_sumsOf_212 (zwt_c mg_X9_sumsOf_213 (zwt_c mg_X9_sumsOf_214 (zwt_c mg_X9_sumsOf_215 (zwt_c mg_X9_sumsOf_216 (zwt_c mg_X9_sumsOf_217 (zwt_c mg_X9_sumsOf_218 (zwt_c mg_X9_sumsOf_219 (zwt_c mg_X9_sumsOf_220 (zwt_c mg_X9_sumsOf_221 (zwt_c mg_X9_sumsOf_222 (zwt_c mg_X9_sumsOf_223 (zwt_c mg_X9_sumsOf_224 (zwt_c mg_X9_sumsOf_225 (zwt_c mg_X9_sumsOf_226 (zwt_c mg_X9_sumsOf_227 (zwt_c mg_X9_sumsOf_228 (zwt_c mg_X9_sumsOf_229 (zwt_c mg_X9_sumsOf_230 (zwt_c mg_X9_sumsOf_231 (zwt_c mg_X9_sumsOf_232 (zwt_c mg_X9_sumsOf_233 (zwt_c mg_X9_sumsOf_234 (zwt_c mg_X9_sumsOf_235 (zwt_c mg_X9_sumsOf_236 (zwt_c mg_X9_sumsOf_237 (zwt_c mg_X9_sumsOf_238 (zwt_c mg_X9_sumsOf_239 (zwt_c mg_X9_sumsOf_240 (zwt_c mg_X9_sumsOf_241 (zwt_c mg_X9_sumsOf_242 (zwt_c mg_X9_sumsOf_243 (zwt_c mg_X9_sumsOf_244 (zwt_c mg_X9_sumsOf_245 (zwt_c mg_X9_sumsOf_246 (zwt_c mg_X9_sumsOf_247 (zwt_c mg_X9_sumsOf_248 (zwt_c mg_X9_sumsOf_249 (zwt_c mg_X9_sumsOf_250 (zwt_c mg_X9_sumsOf_251 (zwt_c mg_X9_sumsOf_252 (zwt_c mg_X9_sumsOf_253 (zwt_c mg_X9_sumsOf_254 (zwt_c mg_X9_sumsOf_255 (zwt_c mg_X9_sumsOf_256 (zwt_c mg_X9_sumsOf_257 (zwt_c mg_X9_sumsOf_258 (zwt_c mg_X9_sumsOf_259 (zwt_c mg_X9_sumsOf_260 (zwt_c mg_X9_sumsOf_261 (zwt_c mg_X9_sumsOf_262 (zwt_c mg_X9_sumsOf_263 (zwt_c mg_X9_sumsOf_264 (zwt_c mg_X9_sumsOf_265 (zwt_c mg_X9_sumsOf_266 (zwt_c mg_X9_sumsOf_267 (zwt_c mg_X9_sumsOf_268 (zwt_c mg_X9_sumsOf_269 (zwt_c mg_X9_sumsOf_270 (zwt_c mg_X9_sumsOf_271 (zwt_c mg_X9_sumsOf_272 (zwt_c mg_X9_sumsOf_273 (zwt_c mg_X9_sumsOf_274 (zwt_c mg_X9_sumsOf_275 (zwt_c mg_X9_sumsOf_276 (zwt_c mg_X9_sumsOf_277 (zwt_c mg_X9_sumsOf_278 (zwt_c mg_X9_sumsOf_279 (zwt_c mg_X9_sumsOf_280 (zwt_c mg_X9_sumsOf_281 (zwt_c mg_X9_sumsOf_282 (zwt_c mg_X9_sumsOf_283 (zwt_c mg_X9_sumsOf_284 (zwt_c mg_X9_sumsOf_285 (zwt_c mg_X9_sumsOf_286 (zwt_c mg_X9_sumsOf_287 (zwt_c mg_X9_sumsOf_288 (zwt_c mg_X9_sumsOf_289 zwt_n))))))))))))))))))))))))))))))))))))))))))))))))))))))))))))))))))))))))))))))))))))))))))))))))))))))))))))))))))))))))))))))))))))))))))))))))))))))))))))))))))))))))))))))))))))))))))))))))))))))))))))))))))))))))))))))))))))))))))))))))))))))))))))))))))))))))))))))))))))))))))))))))))
end
section
/-! the reference by summaries, by program -/
noncomputable def lX9_beginsa_40 {d : Nat} (P : zP d) (r40 : zK d) : zK d := (xild 2 (xald 0 (xgfI 25 0 (xcmpS tleR rlS rhLe rlGt rhS (xald 0 (xgfR 25 33 (xild 2 (xild 2 (xasQ 0 (fun v => v) (xincR 2 1 r40)))))) (xmk mk10 (xmk mk11 (xald 0 (xald 0 (xgfR 25 29 (xcV 25 2 0 0 (zstr gs_X9_sumsOf) (xvret P)))))))))))
set_option maxRecDepth 100000 in
set_option maxHeartbeats 4000000 in
theorem slX9_beginsa_40 {d : Nat} [zGh] (P : zP d) (r40 : zK d) (hr40 : zSimJ 2 X_X9_begins 18 P 40 r40) : zSim X_X9_begins 18 P 40 (lX9_beginsa_40 P r40) := by
  unfold lX9_beginsa_40
  refine sm_iload_n (pc := 40) (n := 2) dX9_begins_40 rfl ?_
  refine sm_aload_n (pc := 41) (n := 0) dX9_begins_41 rfl ?_
  refine gf_X9_169 (pc := 42) rfl dX9_begins_42 ?_
  refine sm_icmpS_gt (pc := 45) (tgt := 61) dX9_begins_45 (by decide) ?_ ?_
  · skip
    refine sm_mk mk10_ok ?_
    refine sm_mk mk11_ok ?_
    refine sm_aload_n (pc := 61) (n := 0) dX9_begins_61 rfl ?_
    refine sm_aload_n (pc := 62) (n := 0) dX9_begins_62 rfl ?_
    refine gf_X9_72 (pc := 63) rfl dX9_begins_63 ?_
    refine sm_cV (pc := 66) (ci := 9) (n := 2) (mc := 0) (ms := 0) rfl (zMet_str mgs_X9_sumsOf) (cr_X9_234 (X := X_X9_begins) (fr := 18) (frc := 17) (pc := 66) (mc := 0) (ms := 0) rfl (by decide) dX9_begins_66) ?_
    exact sm_vreturn (pc := 69) dX9_begins_69 rfl
  · skip
    refine sm_aload_n (pc := 48) (n := 0) dX9_begins_48 rfl ?_
    refine gf_X9_84 (pc := 49) rfl dX9_begins_49 ?_
    refine sm_iload_n (pc := 52) (n := 2) dX9_begins_52 rfl ?_
    refine sm_iload_n (pc := 53) (n := 2) dX9_begins_53 rfl ?_
    refine sm_iastoreQ (pc := 54) dX9_begins_54 ?_
    refine sm_iincR (pc := 55) (n := 2) dX9_begins_55 zc_i_1 ?_
    refine sm_goto (pc := 58) (tgt := 40) dX9_begins_58 (by decide) ?_
    exact hr40.use
noncomputable def lX9_beginsa_2 {d : Nat} (P : zP d) (r2 : zK d) : zK d := (xild 2 (xald 0 (xgfM 25 28 (xcmpS tgeR rlGe rhS rlS rhLt (xald 0 (xpI 0 (xpfI 25 28 (xald 0 (xild 1 (xpfI 25 25 (xpI 1 (xist 2 (xloop (fun r40 => (lX9_beginsa_40 P r40)) 100000))))))))) (xald 0 (xgfR 25 26 (xald 0 (xgfR 25 27 (xild 2 (xalQ 0 (xpI 0 (xasQ 0 (fun v => v) (xincR 2 1 r2)))))))))))))
set_option maxRecDepth 100000 in
set_option maxHeartbeats 4000000 in
theorem slX9_beginsa_2 {d : Nat} [zGh] (P : zP d) (r2 : zK d) (hr2 : zSimJ 2 X_X9_begins 18 P 2 r2) : zSim X_X9_begins 18 P 2 (lX9_beginsa_2 P r2) := by
  unfold lX9_beginsa_2
  refine sm_iload_n (pc := 2) (n := 2) dX9_begins_2 rfl ?_
  refine sm_aload_n (pc := 3) (n := 0) dX9_begins_3 rfl ?_
  refine gfM_X9_220 (pc := 4) rfl dX9_begins_4 ?_
  refine sm_icmpS_ge (pc := 7) (tgt := 28) dX9_begins_7 (by decide) ?_ ?_
  · skip
    refine sm_aload_n (pc := 28) (n := 0) dX9_begins_28 rfl ?_
    refine sm_iconst (pc := 29) dX9_begins_29 zc_i_0 ?_
    refine pf_X9_220 (pc := 30) rfl dX9_begins_30 ?_
    refine sm_aload_n (pc := 33) (n := 0) dX9_begins_33 rfl ?_
    refine sm_iload_n (pc := 34) (n := 1) dX9_begins_34 rfl ?_
    refine pf_X9_205 (pc := 35) rfl dX9_begins_35 ?_
    refine sm_iconst (pc := 38) dX9_begins_38 zc_i_1 ?_
    refine sm_istore_n (pc := 39) (n := 2) dX9_begins_39 rfl ?_
    exact (sm_loopJ (j := 2) (fun G1 hG1 r40 hr40 => @slX9_beginsa_40 d G1 P r40 hr40) _).use
  · skip
    refine sm_aload_n (pc := 10) (n := 0) dX9_begins_10 rfl ?_
    refine gf_X9_66 (pc := 11) rfl dX9_begins_11 ?_
    refine sm_aload_n (pc := 14) (n := 0) dX9_begins_14 rfl ?_
    refine gf_X9_69 (pc := 15) rfl dX9_begins_15 ?_
    refine sm_iload_n (pc := 18) (n := 2) dX9_begins_18 rfl ?_
    refine sm_ialoadQ (pc := 19) dX9_begins_19 ?_
    refine sm_iconst (pc := 20) dX9_begins_20 zc_i_0 ?_
    refine sm_iastoreQ (pc := 21) dX9_begins_21 ?_
    refine sm_iincR (pc := 22) (n := 2) dX9_begins_22 zc_i_1 ?_
    refine sm_goto (pc := 25) (tgt := 2) dX9_begins_25 (by decide) ?_
    exact hr2.use
noncomputable def b_X9_beginsa {d : Nat} (P : zP d) : zK d := (xpI 0 (xist 2 (xlp 2 1 (hsC 721) (wkA 0 [26] 4294968017 (wkA 0 [27] 4295013952 (wkF 0 [] 28 4294968017 wkE))) (fun r2 => (lX9_beginsa_2 P r2)))))
set_option maxRecDepth 100000 in
set_option maxHeartbeats 4000000 in
theorem s_X9_beginsa {d : Nat} [zGh] (P : zP d) : zSim X_X9_begins 18 P 0 (b_X9_beginsa P) := by
  unfold b_X9_beginsa
  refine sm_iconst (pc := 0) dX9_begins_0 zc_i_0 ?_
  refine sm_istore_n (pc := 1) (n := 2) dX9_begins_1 rfl ?_
  exact sm_lp (i := 2) (j := 1) (by decide) (by decide) hsC_ok (wkA_ok (wkA_ok (wkF_ok wkE_ok))) (fun G1 hG1 r2 hr2 => @slX9_beginsa_2 d G1 P r2 hr2)
noncomputable def f_X9_beginsa {d : Nat} : List zV → zH d → zP d → Bool := zfn 3 b_X9_beginsa
theorem m_X9_beginsa {d : Nat} : zMet (d := d) X_X9_begins yX9_begins 18 f_X9_beginsa := zmet_mk (X := X_X9_begins) (by decide) rfl rfl s_X9_beginsa
end
section
/-! the reference by summaries, by program -/
noncomputable def lX9_forma_6 {d : Nat} (P : zP d) (r6 : zK d) : zK d := (xild 6 (xald 0 (xgfM 25 28 (xcmpS tgeR rlGe rhS rlS rhLt (xild 5 (xiret P)) (xild 5 (xald 1 (xpI 720 (xild 2 (xbin zmulR (xild 6 (xbin zaddR (xalQ 0 (xald 3 (xpI 720 (xild 4 (xbin zmulR (xild 6 (xbin zaddR (xalQ 0 (xbin zmulR (xbin zaddR (xist 5 (xincR 6 1 r6)))))))))))))))))))))))
set_option maxRecDepth 100000 in
set_option maxHeartbeats 4000000 in
theorem slX9_forma_6 {d : Nat} [zGh] (P : zP d) (r6 : zK d) (hr6 : zSimJ 2 X_X9_form 1 P 6 r6) : zSim X_X9_form 1 P 6 (lX9_forma_6 P r6) := by
  unfold lX9_forma_6
  refine sm_iload (pc := 6) (n := 6) dX9_form_6 ?_
  refine sm_aload_n (pc := 8) (n := 0) dX9_form_8 rfl ?_
  refine gfM_X9_220 (pc := 9) rfl dX9_form_9 ?_
  refine sm_icmpS_ge (pc := 12) (tgt := 48) dX9_form_12 (by decide) ?_ ?_
  · skip
    refine sm_iload (pc := 48) (n := 5) dX9_form_48 ?_
    exact sm_ireturn (pc := 50) dX9_form_50 rfl
  · skip
    refine sm_iload (pc := 15) (n := 5) dX9_form_15 ?_
    refine sm_aload_n (pc := 17) (n := 1) dX9_form_17 rfl ?_
    refine sm_sipush (pc := 18) dX9_form_18 zc_s_720 ?_
    refine sm_iload_n (pc := 21) (n := 2) dX9_form_21 rfl ?_
    refine sm_imulR (pc := 22) dX9_form_22 ?_
    refine sm_iload (pc := 23) (n := 6) dX9_form_23 ?_
    refine sm_iaddR (pc := 25) dX9_form_25 ?_
    refine sm_ialoadQ (pc := 26) dX9_form_26 ?_
    refine sm_aload_n (pc := 27) (n := 3) dX9_form_27 rfl ?_
    refine sm_sipush (pc := 28) dX9_form_28 zc_s_720 ?_
    refine sm_iload (pc := 31) (n := 4) dX9_form_31 ?_
    refine sm_imulR (pc := 33) dX9_form_33 ?_
    refine sm_iload (pc := 34) (n := 6) dX9_form_34 ?_
    refine sm_iaddR (pc := 36) dX9_form_36 ?_
    refine sm_ialoadQ (pc := 37) dX9_form_37 ?_
    refine sm_imulR (pc := 38) dX9_form_38 ?_
    refine sm_iaddR (pc := 39) dX9_form_39 ?_
    refine sm_istore (pc := 40) (n := 5) dX9_form_40 ?_
    refine sm_iincR (pc := 42) (n := 6) dX9_form_42 zc_i_1 ?_
    refine sm_goto (pc := 45) (tgt := 6) dX9_form_45 (by decide) ?_
    exact hr6.use
noncomputable def b_X9_forma {d : Nat} (P : zP d) : zK d := (xpI 0 (xist 5 (xpI 0 (xist 6 (xlp 6 1 (hsC 721) (wkL 5 4294967296 wkE) (fun r6 => (lX9_forma_6 P r6)))))))
set_option maxRecDepth 100000 in
set_option maxHeartbeats 4000000 in
theorem s_X9_forma {d : Nat} [zGh] (P : zP d) : zSim X_X9_form 1 P 0 (b_X9_forma P) := by
  unfold b_X9_forma
  refine sm_iconst (pc := 0) dX9_form_0 zc_i_0 ?_
  refine sm_istore (pc := 1) (n := 5) dX9_form_1 ?_
  refine sm_iconst (pc := 3) dX9_form_3 zc_i_0 ?_
  refine sm_istore (pc := 4) (n := 6) dX9_form_4 ?_
  exact sm_lp (i := 6) (j := 1) (by decide) (by decide) hsC_ok (wkL_ok wkE_ok) (fun G1 hG1 r6 hr6 => @slX9_forma_6 d G1 P r6 hr6)
noncomputable def f_X9_forma {d : Nat} : List zV → zH d → zP d → Bool := zfn 7 b_X9_forma
theorem m_X9_forma {d : Nat} : zMet (d := d) X_X9_form yX9_form 1 f_X9_forma := zmet_mk (X := X_X9_form) (by decide) rfl rfl s_X9_forma
end
section
/-! the reference by summaries, by program -/
noncomputable def bX9_powera_30 {d : Nat} (P : zP d) (r9 : zK d) : zK d := (xlld 5 (xlld 5 (xbinj zmulj (xild 2 (xi2l (xbinjN zremj (xlst 5 (xild 7 (xpI 1 (xbin zshr (xist 7 r9)))))))))))
set_option maxRecDepth 100000 in
set_option maxHeartbeats 4000000 in
theorem sbX9_powera_30 {d : Nat} [zGh] (P : zP d) (r9 : zK d) (hr9 : zSimJ 1 X_X9_power 1 P 9 r9) : zSim X_X9_power 1 P 30 (bX9_powera_30 P r9) := by
  unfold bX9_powera_30
  refine sm_lload (pc := 30) (n := 5) dX9_power_30 ?_
  refine sm_lload (pc := 32) (n := 5) dX9_power_32 ?_
  refine sm_lmul (pc := 34) dX9_power_34 ?_
  refine sm_iload_n (pc := 35) (n := 2) dX9_power_35 rfl ?_
  refine sm_i2l (pc := 36) dX9_power_36 ?_
  refine sm_lrem (pc := 37) dX9_power_37 ?_
  refine sm_lstore (pc := 38) (n := 5) dX9_power_38 ?_
  refine sm_iload (pc := 40) (n := 7) dX9_power_40 ?_
  refine sm_iconst (pc := 42) dX9_power_42 zc_i_1 ?_
  refine sm_ishr (pc := 43) dX9_power_43 ?_
  refine sm_istore (pc := 44) (n := 7) dX9_power_44 ?_
  refine sm_goto (pc := 46) (tgt := 9) dX9_power_46 (by decide) ?_
  exact hr9.use
noncomputable def lX9_powera_9 {d : Nat} (P : zP d) (r9 : zK d) : zK d := (xild 7 (xif0S tleR rlS rhLe rlGt rhS (xlld 3 (xl2i (xiret P))) (xild 7 (xpI 1 (xbin zandR (xpI 1 (xjoin (bX9_powera_30 P r9) (fun j30 => (xcmpS teqR rlEq rhEq rlNe rhNe (xlld 3 (xlld 5 (xbinj zmulj (xild 2 (xi2l (xbinjN zremj (xlst 3 j30))))))) j30)))))))))
set_option maxRecDepth 100000 in
set_option maxHeartbeats 4000000 in
theorem slX9_powera_9 {d : Nat} [zGh] (P : zP d) (r9 : zK d) (hr9 : zSimJ 1 X_X9_power 1 P 9 r9) : zSim X_X9_power 1 P 9 (lX9_powera_9 P r9) := by
  unfold lX9_powera_9
  refine sm_iload (pc := 9) (n := 7) dX9_power_9 ?_
  refine sm_ifS_le (pc := 11) (tgt := 49) dX9_power_11 (by decide) ?_ ?_
  · skip
    refine sm_lload_n (pc := 49) (n := 3) dX9_power_49 rfl ?_
    refine sm_l2i (pc := 50) dX9_power_50 ?_
    exact sm_ireturn (pc := 51) dX9_power_51 rfl
  · skip
    refine sm_iload (pc := 14) (n := 7) dX9_power_14 ?_
    refine sm_iconst (pc := 16) dX9_power_16 zc_i_1 ?_
    refine sm_iandR (pc := 17) dX9_power_17 ?_
    refine sm_iconst (pc := 18) dX9_power_18 zc_i_1 ?_
    refine sm_joinJ (pc := 19) (pc' := 30) (j := 1) (fun G0 hG0 => @sbX9_powera_30 d G0 P r9 (hr9.mv hG0 (by decide))) (fun j30 hj30 => ?_)
    refine sm_icmpS_ne (pc := 19) (tgt := 30) dX9_power_19 (by decide) ?_ ?_
    · skip
      exact hj30.use
    · skip
      refine sm_lload_n (pc := 22) (n := 3) dX9_power_22 rfl ?_
      refine sm_lload (pc := 23) (n := 5) dX9_power_23 ?_
      refine sm_lmul (pc := 25) dX9_power_25 ?_
      refine sm_iload_n (pc := 26) (n := 2) dX9_power_26 rfl ?_
      refine sm_i2l (pc := 27) dX9_power_27 ?_
      refine sm_lrem (pc := 28) dX9_power_28 ?_
      refine sm_lstore_n (pc := 29) (n := 3) dX9_power_29 rfl ?_
      exact hj30.use
noncomputable def b_X9_powera {d : Nat} (P : zP d) : zK d := (xpL 1 (xlst 3 (xild 0 (xi2l (xlst 5 (xild 1 (xist 7 (xloop (fun r9 => (lX9_powera_9 P r9)) 100000))))))))
set_option maxRecDepth 100000 in
set_option maxHeartbeats 4000000 in
theorem s_X9_powera {d : Nat} [zGh] (P : zP d) : zSim X_X9_power 1 P 0 (b_X9_powera P) := by
  unfold b_X9_powera
  refine sm_lconst (pc := 0) dX9_power_0 zc_l_1 ?_
  refine sm_lstore_n (pc := 1) (n := 3) dX9_power_1 rfl ?_
  refine sm_iload_n (pc := 2) (n := 0) dX9_power_2 rfl ?_
  refine sm_i2l (pc := 3) dX9_power_3 ?_
  refine sm_lstore (pc := 4) (n := 5) dX9_power_4 ?_
  refine sm_iload_n (pc := 6) (n := 1) dX9_power_6 rfl ?_
  refine sm_istore (pc := 7) (n := 7) dX9_power_7 ?_
  exact (sm_loopJ (j := 1) (fun G1 hG1 r9 hr9 => @slX9_powera_9 d G1 P r9 hr9) _).use
noncomputable def f_X9_powera {d : Nat} : List zV → zH d → zP d → Bool := zfn 8 b_X9_powera
theorem m_X9_powera {d : Nat} : zMet (d := d) X_X9_power yX9_power 1 f_X9_powera := zmet_mk (X := X_X9_power) (by decide) rfl rfl s_X9_powera
end
section
/-! the reference by summaries, by program -/
noncomputable def bX9_rankOfa_263 {d : Nat} (P : zP d) : zK d := (xild 2 (xiret P))
set_option maxRecDepth 100000 in
set_option maxHeartbeats 4000000 in
theorem sbX9_rankOfa_263 {d : Nat} [zGh] (P : zP d) : zSim X_X9_rankOf 2 P 263 (bX9_rankOfa_263 P) := by
  unfold bX9_rankOfa_263
  refine sm_iload_n (pc := 263) (n := 2) dX9_rankOf_263 rfl ?_
  exact sm_ireturn (pc := 264) dX9_rankOf_264 rfl
noncomputable def bX9_rankOfa_257 {d : Nat} (P : zP d) (r4 : zK d) : zK d := (xincR 3 1 r4)
set_option maxRecDepth 100000 in
set_option maxHeartbeats 4000000 in
theorem sbX9_rankOfa_257 {d : Nat} [zGh] (P : zP d) (r4 : zK d) (hr4 : zSimJ 2 X_X9_rankOf 2 P 4 r4) : zSim X_X9_rankOf 2 P 257 (bX9_rankOfa_257 P r4) := by
  unfold bX9_rankOfa_257
  refine sm_iincR (pc := 257) (n := 3) dX9_rankOf_257 zc_i_1 ?_
  refine sm_goto (pc := 260) (tgt := 4) dX9_rankOf_260 (by decide) ?_
  exact hr4.use
noncomputable def cX9_rankOfa_226 {d : Nat} (P : zP d) (r184 : zK d) : zK d := (xpI 16 (xild 2 (xbin zmulR (xild 8 (xbin zaddR (xalQ 0 (xbin zmulR (xbin zaddR (xald 0 (xgfI 25 1 (xbinN zremR (xasQ 0 (fun v => v) (xincR 8 1 r184)))))))))))))
set_option maxRecDepth 100000 in
set_option maxHeartbeats 4000000 in
theorem scX9_rankOfa_226 {d : Nat} [zGh] (P : zP d) (r184 : zK d) (hr184 : zSimJ 7 X_X9_rankOf 2 P 184 r184) : zSim X_X9_rankOf 2 P 226 (cX9_rankOfa_226 P r184) := by
  unfold cX9_rankOfa_226
  refine sm_bipush (pc := 226) dX9_rankOf_226 zc_b_16 ?_
  refine sm_iload_n (pc := 228) (n := 2) dX9_rankOf_228 rfl ?_
  refine sm_imulR (pc := 229) dX9_rankOf_229 ?_
  refine sm_iload (pc := 230) (n := 8) dX9_rankOf_230 ?_
  refine sm_iaddR (pc := 232) dX9_rankOf_232 ?_
  refine sm_ialoadQ (pc := 233) dX9_rankOf_233 ?_
  refine sm_imulR (pc := 234) dX9_rankOf_234 ?_
  refine sm_iaddR (pc := 235) dX9_rankOf_235 ?_
  refine sm_aload_n (pc := 236) (n := 0) dX9_rankOf_236 rfl ?_
  refine gf_X9_184 (pc := 237) rfl dX9_rankOf_237 ?_
  refine sm_iremR (pc := 240) dX9_rankOf_240 ?_
  refine sm_iastoreQ (pc := 241) dX9_rankOf_241 ?_
  refine sm_iincR (pc := 242) (n := 8) dX9_rankOf_242 zc_i_1 ?_
  refine sm_goto (pc := 245) (tgt := 184) dX9_rankOf_245 (by decide) ?_
  exact hr184.use
noncomputable def lX9_rankOfa_184 {d : Nat} (P : zP d) (r153 : zK d) (r184 : zK d) : zK d := (xild 8 (xild 1 (xcmpS tgeR rlGe rhS rlS rhLt (xincR 6 1 r153) (xald 0 (xgfR 25 34 (xpI 16 (xild 6 (xbin zmulR (xild 8 (xbin zaddR (xald 0 (xgfR 25 34 (xpI 16 (xild 6 (xbin zmulR (xild 8 (xbin zaddR (xalQ 0 (xald 0 (xgfI 25 1 (xild 7 (xbin zsubR (xald 0 (xgfR 25 34 (cX9_rankOfa_226 P r184)))))))))))))))))))))))))
set_option maxRecDepth 100000 in
set_option maxHeartbeats 4000000 in
theorem slX9_rankOfa_184 {d : Nat} [zGh] (P : zP d) (r153 : zK d) (r184 : zK d) (hr153 : zSimJ 6 X_X9_rankOf 2 P 153 r153) (hr184 : zSimJ 7 X_X9_rankOf 2 P 184 r184) : zSim X_X9_rankOf 2 P 184 (lX9_rankOfa_184 P r153 r184) := by
  unfold lX9_rankOfa_184
  refine sm_iload (pc := 184) (n := 8) dX9_rankOf_184 ?_
  refine sm_iload_n (pc := 186) (n := 1) dX9_rankOf_186 rfl ?_
  refine sm_icmpS_ge (pc := 187) (tgt := 248) dX9_rankOf_187 (by decide) ?_ ?_
  · skip
    refine sm_iincR (pc := 248) (n := 6) dX9_rankOf_248 zc_i_1 ?_
    refine sm_goto (pc := 251) (tgt := 153) dX9_rankOf_251 (by decide) ?_
    exact hr153.use
  · skip
    refine sm_aload_n (pc := 190) (n := 0) dX9_rankOf_190 rfl ?_
    refine gf_X9_87 (pc := 191) rfl dX9_rankOf_191 ?_
    refine sm_bipush (pc := 194) dX9_rankOf_194 zc_b_16 ?_
    refine sm_iload (pc := 196) (n := 6) dX9_rankOf_196 ?_
    refine sm_imulR (pc := 198) dX9_rankOf_198 ?_
    refine sm_iload (pc := 199) (n := 8) dX9_rankOf_199 ?_
    refine sm_iaddR (pc := 201) dX9_rankOf_201 ?_
    refine sm_aload_n (pc := 202) (n := 0) dX9_rankOf_202 rfl ?_
    refine gf_X9_87 (pc := 203) rfl dX9_rankOf_203 ?_
    refine sm_bipush (pc := 206) dX9_rankOf_206 zc_b_16 ?_
    refine sm_iload (pc := 208) (n := 6) dX9_rankOf_208 ?_
    refine sm_imulR (pc := 210) dX9_rankOf_210 ?_
    refine sm_iload (pc := 211) (n := 8) dX9_rankOf_211 ?_
    refine sm_iaddR (pc := 213) dX9_rankOf_213 ?_
    refine sm_ialoadQ (pc := 214) dX9_rankOf_214 ?_
    refine sm_aload_n (pc := 215) (n := 0) dX9_rankOf_215 rfl ?_
    refine gf_X9_184 (pc := 216) rfl dX9_rankOf_216 ?_
    refine sm_iload (pc := 219) (n := 7) dX9_rankOf_219 ?_
    refine sm_isubR (pc := 221) dX9_rankOf_221 ?_
    refine sm_aload_n (pc := 222) (n := 0) dX9_rankOf_222 rfl ?_
    refine gf_X9_87 (pc := 223) rfl dX9_rankOf_223 ?_
    exact scX9_rankOfa_226 P r184 hr184
noncomputable def lX9_rankOfa_153 {d : Nat} (P : zP d) (j257 : zK d) (r153 : zK d) : zK d := (xild 6 (xild 1 (xcmpS tgeR rlGe rhS rlS rhLt (xincR 2 1 j257) (xald 0 (xgfR 25 34 (xpI 16 (xild 6 (xbin zmulR (xild 3 (xbin zaddR (xalQ 0 (xild 5 (xbin zmulR (xald 0 (xgfI 25 1 (xbinN zremR (xist 7 (xild 3 (xist 8 (xlp 8 6 (hsL 1) wkE (fun r184 => (lX9_rankOfa_184 P r153 r184))))))))))))))))))))))
set_option maxRecDepth 100000 in
set_option maxHeartbeats 4000000 in
theorem slX9_rankOfa_153 {d : Nat} [zGh] (P : zP d) (j257 : zK d) (r153 : zK d) (hj257 : zSimJ 4 X_X9_rankOf 2 P 257 j257) (hr153 : zSimJ 6 X_X9_rankOf 2 P 153 r153) : zSim X_X9_rankOf 2 P 153 (lX9_rankOfa_153 P j257 r153) := by
  unfold lX9_rankOfa_153
  refine sm_iload (pc := 153) (n := 6) dX9_rankOf_153 ?_
  refine sm_iload_n (pc := 155) (n := 1) dX9_rankOf_155 rfl ?_
  refine sm_icmpS_ge (pc := 156) (tgt := 254) dX9_rankOf_156 (by decide) ?_ ?_
  · skip
    refine sm_iincR (pc := 254) (n := 2) dX9_rankOf_254 zc_i_1 ?_
    exact hj257.use
  · skip
    refine sm_aload_n (pc := 159) (n := 0) dX9_rankOf_159 rfl ?_
    refine gf_X9_87 (pc := 160) rfl dX9_rankOf_160 ?_
    refine sm_bipush (pc := 163) dX9_rankOf_163 zc_b_16 ?_
    refine sm_iload (pc := 165) (n := 6) dX9_rankOf_165 ?_
    refine sm_imulR (pc := 167) dX9_rankOf_167 ?_
    refine sm_iload_n (pc := 168) (n := 3) dX9_rankOf_168 rfl ?_
    refine sm_iaddR (pc := 169) dX9_rankOf_169 ?_
    refine sm_ialoadQ (pc := 170) dX9_rankOf_170 ?_
    refine sm_iload (pc := 171) (n := 5) dX9_rankOf_171 ?_
    refine sm_imulR (pc := 173) dX9_rankOf_173 ?_
    refine sm_aload_n (pc := 174) (n := 0) dX9_rankOf_174 rfl ?_
    refine gf_X9_184 (pc := 175) rfl dX9_rankOf_175 ?_
    refine sm_iremR (pc := 178) dX9_rankOf_178 ?_
    refine sm_istore (pc := 179) (n := 7) dX9_rankOf_179 ?_
    refine sm_iload_n (pc := 181) (n := 3) dX9_rankOf_181 rfl ?_
    refine sm_istore (pc := 182) (n := 8) dX9_rankOf_182 ?_
    exact sm_lp (i := 8) (j := 6) (by decide) (by decide) hsL_ok wkE_ok (fun G1 hG1 r184 hr184 => @slX9_rankOfa_184 d G1 P r153 r184 (hr153.mv hG1 (by decide)) hr184)
noncomputable def cX9_rankOfa_97 {d : Nat} (P : zP d) (r56 : zK d) : zK d := (xild 5 (xbin zaddR (xalQ 0 (xasQ 0 (fun v => v) (xald 0 (xgfR 25 34 (xpI 16 (xild 2 (xbin zmulR (xild 5 (xbin zaddR (xild 6 (xasQ 0 (fun v => v) (xincR 5 1 r56))))))))))))))
set_option maxRecDepth 100000 in
set_option maxHeartbeats 4000000 in
theorem scX9_rankOfa_97 {d : Nat} [zGh] (P : zP d) (r56 : zK d) (hr56 : zSimJ 5 X_X9_rankOf 2 P 56 r56) : zSim X_X9_rankOf 2 P 97 (cX9_rankOfa_97 P r56) := by
  unfold cX9_rankOfa_97
  refine sm_iload (pc := 97) (n := 5) dX9_rankOf_97 ?_
  refine sm_iaddR (pc := 99) dX9_rankOf_99 ?_
  refine sm_ialoadQ (pc := 100) dX9_rankOf_100 ?_
  refine sm_iastoreQ (pc := 101) dX9_rankOf_101 ?_
  refine sm_aload_n (pc := 102) (n := 0) dX9_rankOf_102 rfl ?_
  refine gf_X9_87 (pc := 103) rfl dX9_rankOf_103 ?_
  refine sm_bipush (pc := 106) dX9_rankOf_106 zc_b_16 ?_
  refine sm_iload_n (pc := 108) (n := 2) dX9_rankOf_108 rfl ?_
  refine sm_imulR (pc := 109) dX9_rankOf_109 ?_
  refine sm_iload (pc := 110) (n := 5) dX9_rankOf_110 ?_
  refine sm_iaddR (pc := 112) dX9_rankOf_112 ?_
  refine sm_iload (pc := 113) (n := 6) dX9_rankOf_113 ?_
  refine sm_iastoreQ (pc := 115) dX9_rankOf_115 ?_
  refine sm_iincR (pc := 116) (n := 5) dX9_rankOf_116 zc_i_1 ?_
  refine sm_goto (pc := 119) (tgt := 56) dX9_rankOf_119 (by decide) ?_
  exact hr56.use
noncomputable def lX9_rankOfa_56 {d : Nat} (P : zP d) (j257 : zK d) (r56 : zK d) : zK d := (xild 5 (xild 1 (xcmpS tgeR rlGe rhS rlS rhLt (xald 0 (xgfR 25 34 (xpI 16 (xild 2 (xbin zmulR (xild 3 (xbin zaddR (xalQ 0 (xald 0 (xgfI 25 1 (xpI 2 (xbin zsubR (xald 0 (xgfI 25 1 (xcS 3 0 0 (zstr f_X9_powera) (xist 5 (xild 2 (xpI 1 (xbin zaddR (xist 6 (xlp 6 5 (hsC 18) wkE (fun r153 => (lX9_rankOfa_153 P j257 r153))))))))))))))))))))))) (xald 0 (xgfR 25 34 (xpI 16 (xild 4 (xbin zmulR (xild 5 (xbin zaddR (xalQ 0 (xist 6 (xald 0 (xgfR 25 34 (xpI 16 (xild 4 (xbin zmulR (xild 5 (xbin zaddR (xald 0 (xgfR 25 34 (xpI 16 (xild 2 (xbin zmulR (cX9_rankOfa_97 P r56)))))))))))))))))))))))))
set_option maxRecDepth 100000 in
set_option maxHeartbeats 4000000 in
theorem slX9_rankOfa_56 {d : Nat} [zGh] (P : zP d) (j257 : zK d) (r56 : zK d) (hj257 : zSimJ 4 X_X9_rankOf 2 P 257 j257) (hr56 : zSimJ 5 X_X9_rankOf 2 P 56 r56) : zSim X_X9_rankOf 2 P 56 (lX9_rankOfa_56 P j257 r56) := by
  unfold lX9_rankOfa_56
  refine sm_iload (pc := 56) (n := 5) dX9_rankOf_56 ?_
  refine sm_iload_n (pc := 58) (n := 1) dX9_rankOf_58 rfl ?_
  refine sm_icmpS_ge (pc := 59) (tgt := 122) dX9_rankOf_59 (by decide) ?_ ?_
  · skip
    refine sm_aload_n (pc := 122) (n := 0) dX9_rankOf_122 rfl ?_
    refine gf_X9_87 (pc := 123) rfl dX9_rankOf_123 ?_
    refine sm_bipush (pc := 126) dX9_rankOf_126 zc_b_16 ?_
    refine sm_iload_n (pc := 128) (n := 2) dX9_rankOf_128 rfl ?_
    refine sm_imulR (pc := 129) dX9_rankOf_129 ?_
    refine sm_iload_n (pc := 130) (n := 3) dX9_rankOf_130 rfl ?_
    refine sm_iaddR (pc := 131) dX9_rankOf_131 ?_
    refine sm_ialoadQ (pc := 132) dX9_rankOf_132 ?_
    refine sm_aload_n (pc := 133) (n := 0) dX9_rankOf_133 rfl ?_
    refine gf_X9_184 (pc := 134) rfl dX9_rankOf_134 ?_
    refine sm_iconst (pc := 137) dX9_rankOf_137 zc_i_2 ?_
    refine sm_isubR (pc := 138) dX9_rankOf_138 ?_
    refine sm_aload_n (pc := 139) (n := 0) dX9_rankOf_139 rfl ?_
    refine gf_X9_184 (pc := 140) rfl dX9_rankOf_140 ?_
    refine sm_cS (pc := 143) (n := 3) (mc := 0) (ms := 0) (zMet_str m_X9_powera) (cr_X9_238 (X := X_X9_rankOf) (fr := 2) (frc := 1) (pc := 143) (mc := 0) (ms := 0) rfl (by decide) dX9_rankOf_143) ?_
    refine sm_istore (pc := 146) (n := 5) dX9_rankOf_146 ?_
    refine sm_iload_n (pc := 148) (n := 2) dX9_rankOf_148 rfl ?_
    refine sm_iconst (pc := 149) dX9_rankOf_149 zc_i_1 ?_
    refine sm_iaddR (pc := 150) dX9_rankOf_150 ?_
    refine sm_istore (pc := 151) (n := 6) dX9_rankOf_151 ?_
    exact sm_lp (i := 6) (j := 5) (by decide) (by decide) hsC_ok wkE_ok (fun G1 hG1 r153 hr153 => @slX9_rankOfa_153 d G1 P j257 r153 (hj257.mv hG1 (by decide)) hr153)
  · skip
    refine sm_aload_n (pc := 62) (n := 0) dX9_rankOf_62 rfl ?_
    refine gf_X9_87 (pc := 63) rfl dX9_rankOf_63 ?_
    refine sm_bipush (pc := 66) dX9_rankOf_66 zc_b_16 ?_
    refine sm_iload (pc := 68) (n := 4) dX9_rankOf_68 ?_
    refine sm_imulR (pc := 70) dX9_rankOf_70 ?_
    refine sm_iload (pc := 71) (n := 5) dX9_rankOf_71 ?_
    refine sm_iaddR (pc := 73) dX9_rankOf_73 ?_
    refine sm_ialoadQ (pc := 74) dX9_rankOf_74 ?_
    refine sm_istore (pc := 75) (n := 6) dX9_rankOf_75 ?_
    refine sm_aload_n (pc := 77) (n := 0) dX9_rankOf_77 rfl ?_
    refine gf_X9_87 (pc := 78) rfl dX9_rankOf_78 ?_
    refine sm_bipush (pc := 81) dX9_rankOf_81 zc_b_16 ?_
    refine sm_iload (pc := 83) (n := 4) dX9_rankOf_83 ?_
    refine sm_imulR (pc := 85) dX9_rankOf_85 ?_
    refine sm_iload (pc := 86) (n := 5) dX9_rankOf_86 ?_
    refine sm_iaddR (pc := 88) dX9_rankOf_88 ?_
    refine sm_aload_n (pc := 89) (n := 0) dX9_rankOf_89 rfl ?_
    refine gf_X9_87 (pc := 90) rfl dX9_rankOf_90 ?_
    refine sm_bipush (pc := 93) dX9_rankOf_93 zc_b_16 ?_
    refine sm_iload_n (pc := 95) (n := 2) dX9_rankOf_95 rfl ?_
    refine sm_imulR (pc := 96) dX9_rankOf_96 ?_
    exact scX9_rankOfa_97 P r56 hr56
noncomputable def bX9_rankOfa_44 {d : Nat} (P : zP d) (r4 : zK d) : zK d := (xild 4 (xild 1 (xjoin (bX9_rankOfa_257 P r4) (fun j257 => (xcmpS teqR rlEq rhEq rlNe rhNe j257 (xpI 0 (xist 5 (xlp 5 4 (hsL 1) wkE (fun r56 => (lX9_rankOfa_56 P j257 r56))))))))))
set_option maxRecDepth 100000 in
set_option maxHeartbeats 4000000 in
theorem sbX9_rankOfa_44 {d : Nat} [zGh] (P : zP d) (r4 : zK d) (hr4 : zSimJ 2 X_X9_rankOf 2 P 4 r4) : zSim X_X9_rankOf 2 P 44 (bX9_rankOfa_44 P r4) := by
  unfold bX9_rankOfa_44
  refine sm_iload (pc := 44) (n := 4) dX9_rankOf_44 ?_
  refine sm_iload_n (pc := 46) (n := 1) dX9_rankOf_46 rfl ?_
  refine sm_joinJ (pc := 47) (pc' := 257) (j := 4) (fun G0 hG0 => @sbX9_rankOfa_257 d G0 P r4 (hr4.mv hG0 (by decide))) (fun j257 hj257 => ?_)
  refine sm_icmpS_ne (pc := 47) (tgt := 53) dX9_rankOf_47 (by decide) ?_ ?_
  · skip
    refine sm_iconst (pc := 53) dX9_rankOf_53 zc_i_0 ?_
    refine sm_istore (pc := 54) (n := 5) dX9_rankOf_54 ?_
    exact sm_lp (i := 5) (j := 4) (by decide) (by decide) hsL_ok wkE_ok (fun G1 hG1 r56 hr56 => @slX9_rankOfa_56 d G1 P j257 r56 (hj257.mv hG1 (by decide)) hr56)
  · skip
    refine sm_goto (pc := 50) (tgt := 257) dX9_rankOf_50 (by decide) ?_
    exact hj257.use
noncomputable def lX9_rankOfa_17 {d : Nat} (P : zP d) (r17 : zK d) (r4 : zK d) : zK d := (xild 4 (xild 1 (xjoin (bX9_rankOfa_44 P r4) (fun j44 => (xcmpS tgeR rlGe rhS rlS rhLt j44 (xald 0 (xgfR 25 34 (xpI 16 (xild 4 (xbin zmulR (xild 3 (xbin zaddR (xalQ 0 (xif0S teqR rlEq rhEq rlNe rhNe (xincR 4 1 r17) j44))))))))))))))
set_option maxRecDepth 100000 in
set_option maxHeartbeats 4000000 in
theorem slX9_rankOfa_17 {d : Nat} [zGh] (P : zP d) (r17 : zK d) (r4 : zK d) (hr17 : zSimJ 4 X_X9_rankOf 2 P 17 r17) (hr4 : zSimJ 2 X_X9_rankOf 2 P 4 r4) : zSim X_X9_rankOf 2 P 17 (lX9_rankOfa_17 P r17 r4) := by
  unfold lX9_rankOfa_17
  refine sm_iload (pc := 17) (n := 4) dX9_rankOf_17 ?_
  refine sm_iload_n (pc := 19) (n := 1) dX9_rankOf_19 rfl ?_
  refine sm_joinJ (pc := 20) (pc' := 44) (j := 4) (fun G0 hG0 => @sbX9_rankOfa_44 d G0 P r4 (hr4.mv hG0 (by decide))) (fun j44 hj44 => ?_)
  refine sm_icmpS_ge (pc := 20) (tgt := 44) dX9_rankOf_20 (by decide) ?_ ?_
  · skip
    exact hj44.use
  · skip
    refine sm_aload_n (pc := 23) (n := 0) dX9_rankOf_23 rfl ?_
    refine gf_X9_87 (pc := 24) rfl dX9_rankOf_24 ?_
    refine sm_bipush (pc := 27) dX9_rankOf_27 zc_b_16 ?_
    refine sm_iload (pc := 29) (n := 4) dX9_rankOf_29 ?_
    refine sm_imulR (pc := 31) dX9_rankOf_31 ?_
    refine sm_iload_n (pc := 32) (n := 3) dX9_rankOf_32 rfl ?_
    refine sm_iaddR (pc := 33) dX9_rankOf_33 ?_
    refine sm_ialoadQ (pc := 34) dX9_rankOf_34 ?_
    refine sm_ifS_ne (pc := 35) (tgt := 44) dX9_rankOf_35 (by decide) ?_ ?_
    · skip
      exact hj44.use
    · skip
      refine sm_iincR (pc := 38) (n := 4) dX9_rankOf_38 zc_i_1 ?_
      refine sm_goto (pc := 41) (tgt := 17) dX9_rankOf_41 (by decide) ?_
      exact hr17.use
noncomputable def yX9_rankOfa_9 {d : Nat} (P : zP d) (j263 : zK d) (r4 : zK d) : zK d := (xild 2 (xild 1 (xcmpS tgeR rlGe rhS rlS rhLt j263 (xild 2 (xist 4 (xlp 4 3 (hsL 1) wkE (fun r17 => (lX9_rankOfa_17 P r17 r4))))))))
set_option maxRecDepth 100000 in
set_option maxHeartbeats 4000000 in
theorem syX9_rankOfa_9 {d : Nat} [zGh] (P : zP d) (j263 : zK d) (r4 : zK d) (hj263 : zSimJ 2 X_X9_rankOf 2 P 263 j263) (hr4 : zSimJ 2 X_X9_rankOf 2 P 4 r4) : zSim X_X9_rankOf 2 P 9 (yX9_rankOfa_9 P j263 r4) := by
  unfold yX9_rankOfa_9
  refine sm_iload_n (pc := 9) (n := 2) dX9_rankOf_9 rfl ?_
  refine sm_iload_n (pc := 10) (n := 1) dX9_rankOf_10 rfl ?_
  refine sm_icmpS_ge (pc := 11) (tgt := 263) dX9_rankOf_11 (by decide) ?_ ?_
  · skip
    exact hj263.use
  · skip
    refine sm_iload_n (pc := 14) (n := 2) dX9_rankOf_14 rfl ?_
    refine sm_istore (pc := 15) (n := 4) dX9_rankOf_15 ?_
    exact sm_lp (i := 4) (j := 3) (by decide) (by decide) hsL_ok wkE_ok (fun G1 hG1 r17 hr17 => @slX9_rankOfa_17 d G1 P r17 r4 hr17 (hr4.mv hG1 (by decide)))
noncomputable def lX9_rankOfa_4 {d : Nat} (P : zP d) (r4 : zK d) : zK d := (xild 3 (xild 1 (xjn (wkB 2 1 (wkU 3 wkE)) (zsp [] 2) (bX9_rankOfa_263 P) (fun j263 => (xcmpS tgeR rlGe rhS rlS rhLt j263 (xsym 2 2 (yX9_rankOfa_9 P j263 r4)))))))
set_option maxRecDepth 100000 in
set_option maxHeartbeats 4000000 in
theorem slX9_rankOfa_4 {d : Nat} [zGh] (P : zP d) (r4 : zK d) (hr4 : zSimJ 2 X_X9_rankOf 2 P 4 r4) : zSim X_X9_rankOf 2 P 4 (lX9_rankOfa_4 P r4) := by
  unfold lX9_rankOfa_4
  refine sm_iload_n (pc := 4) (n := 3) dX9_rankOf_4 rfl ?_
  refine sm_iload_n (pc := 5) (n := 1) dX9_rankOf_5 rfl ?_
  refine sm_jn (pc := 6) (pc' := 263) (j := 2) (wkB_ok (wkU_ok wkE_ok)) (zsp_ok _ _) (fun G0 hG0 => @sbX9_rankOfa_263 d G0 P) (fun j263 hj263 => ?_)
  refine sm_icmpS_ge (pc := 6) (tgt := 263) dX9_rankOf_6 (by decide) ?_ ?_
  · skip
    exact hj263.use
  · skip
    exact sm_sym (i := 2) (j := 2) (by decide) (fun G1 hG1 => @syX9_rankOfa_9 d G1 P j263 r4 (hj263.mv hG1 (by decide)) (hr4.mv hG1 (by decide)))
noncomputable def b_X9_rankOfa {d : Nat} (P : zP d) : zK d := (xpI 0 (xist 2 (xpI 0 (xist 3 (xlp 3 1 (hsL 1) (wkB 2 1 (wkA 0 [34] 4294967296 wkE)) (fun r4 => (lX9_rankOfa_4 P r4)))))))
set_option maxRecDepth 100000 in
set_option maxHeartbeats 4000000 in
theorem s_X9_rankOfa {d : Nat} [zGh] (P : zP d) : zSim X_X9_rankOf 2 P 0 (b_X9_rankOfa P) := by
  unfold b_X9_rankOfa
  refine sm_iconst (pc := 0) dX9_rankOf_0 zc_i_0 ?_
  refine sm_istore_n (pc := 1) (n := 2) dX9_rankOf_1 rfl ?_
  refine sm_iconst (pc := 2) dX9_rankOf_2 zc_i_0 ?_
  refine sm_istore_n (pc := 3) (n := 3) dX9_rankOf_3 rfl ?_
  exact sm_lp (i := 3) (j := 1) (by decide) (by decide) hsL_ok (wkB_ok (wkA_ok wkE_ok)) (fun G1 hG1 r4 hr4 => @slX9_rankOfa_4 d G1 P r4 hr4)
noncomputable def f_X9_rankOfa {d : Nat} : List zV → zH d → zP d → Bool := zfn 9 b_X9_rankOfa
theorem m_X9_rankOfa {d : Nat} : zMet (d := d) X_X9_rankOf yX9_rankOf 2 f_X9_rankOfa := zmet_mk (X := X_X9_rankOf) (by decide) rfl rfl s_X9_rankOfa

noncomputable def h0_X9_rankOf_0 : zH 1 := (show zT 1 from ((25, 63, bg_201), (0, 256, zun 40 256 4294967296)), (2, (0, 0)))
noncomputable def h1_X9_rankOf_0 : zH 1 := (show zT 1 from ((25, 63, bg_201), (0, 256, zun 40 256 4294967296)), (2, (0, 0)))
theorem ev_X9_rankOf_0 : f_X9_rankOfa [zR 1, zI 1] h0_X9_rankOf_0 (zrk (zI 4294967298) h1_X9_rankOf_0) = true := by decide +kernel
noncomputable def g_X9_rankOf_0 {d : Nat} : List zV → zH d → zP d → Bool := zsmy [(0, 0), (1, 34)] [zR 1, zI 1] h0_X9_rankOf_0 (zI 4294967298) h1_X9_rankOf_0
theorem mg_X9_rankOf_0 {d : Nat} : zMet (d := d) X_X9_rankOf yX9_rankOf 2 g_X9_rankOf_0 := zMet_sm m_X9_rankOfa ev_X9_rankOf_0
noncomputable def h0_X9_rankOf_1 : zH 1 := (show zT 1 from ((25, 63, bg_202), (0, 256, zun 40 256 4294967296)), (2, (0, 0)))
noncomputable def h1_X9_rankOf_1 : zH 1 := (show zT 1 from ((25, 63, bg_202), (0, 256, zun 40 256 4294967296)), (2, (0, 0)))
theorem ev_X9_rankOf_1 : f_X9_rankOfa [zR 1, zI 1] h0_X9_rankOf_1 (zrk (zI 4294967298) h1_X9_rankOf_1) = true := by decide +kernel
noncomputable def g_X9_rankOf_1 {d : Nat} : List zV → zH d → zP d → Bool := zsmy [(0, 0), (1, 34)] [zR 1, zI 1] h0_X9_rankOf_1 (zI 4294967298) h1_X9_rankOf_1
theorem mg_X9_rankOf_1 {d : Nat} : zMet (d := d) X_X9_rankOf yX9_rankOf 2 g_X9_rankOf_1 := zMet_sm m_X9_rankOfa ev_X9_rankOf_1
noncomputable def h0_X9_rankOf_2 : zH 1 := (show zT 1 from ((25, 63, bg_203), (0, 256, zun 40 256 4294967296)), (2, (0, 0)))
noncomputable def h1_X9_rankOf_2 : zH 1 := (show zT 1 from ((25, 63, bg_203), (0, 256, zun 40 256 4294967296)), (2, (0, 0)))
theorem ev_X9_rankOf_2 : f_X9_rankOfa [zR 1, zI 1] h0_X9_rankOf_2 (zrk (zI 4294967298) h1_X9_rankOf_2) = true := by decide +kernel
noncomputable def g_X9_rankOf_2 {d : Nat} : List zV → zH d → zP d → Bool := zsmy [(0, 0), (1, 34)] [zR 1, zI 1] h0_X9_rankOf_2 (zI 4294967298) h1_X9_rankOf_2
theorem mg_X9_rankOf_2 {d : Nat} : zMet (d := d) X_X9_rankOf yX9_rankOf 2 g_X9_rankOf_2 := zMet_sm m_X9_rankOfa ev_X9_rankOf_2
noncomputable def h0_X9_rankOf_3 : zH 1 := (show zT 1 from ((25, 63, bg_204), (0, 256, zun 40 256 4294967296)), (2, (0, 0)))
noncomputable def h1_X9_rankOf_3 : zH 1 := (show zT 1 from ((25, 63, bg_204), (0, 256, zun 40 256 4294967296)), (2, (0, 0)))
theorem ev_X9_rankOf_3 : f_X9_rankOfa [zR 1, zI 1] h0_X9_rankOf_3 (zrk (zI 4294967298) h1_X9_rankOf_3) = true := by decide +kernel
noncomputable def g_X9_rankOf_3 {d : Nat} : List zV → zH d → zP d → Bool := zsmy [(0, 0), (1, 34)] [zR 1, zI 1] h0_X9_rankOf_3 (zI 4294967298) h1_X9_rankOf_3
theorem mg_X9_rankOf_3 {d : Nat} : zMet (d := d) X_X9_rankOf yX9_rankOf 2 g_X9_rankOf_3 := zMet_sm m_X9_rankOfa ev_X9_rankOf_3
noncomputable def h0_X9_rankOf_4 : zH 1 := (show zT 1 from ((25, 63, bg_201), (0, 256, zun 40 256 4294967296)), (2, (0, 0)))
noncomputable def h1_X9_rankOf_4 : zH 1 := (show zT 1 from ((25, 63, bg_201), (0, 256, zun 40 256 4294967296)), (2, (0, 0)))
theorem ev_X9_rankOf_4 : f_X9_rankOfa [zR 1, zI 2] h0_X9_rankOf_4 (zrk (zI 4294967299) h1_X9_rankOf_4) = true := by decide +kernel
noncomputable def g_X9_rankOf_4 {d : Nat} : List zV → zH d → zP d → Bool := zsmy [(0, 0), (1, 34)] [zR 1, zI 2] h0_X9_rankOf_4 (zI 4294967299) h1_X9_rankOf_4
theorem mg_X9_rankOf_4 {d : Nat} : zMet (d := d) X_X9_rankOf yX9_rankOf 2 g_X9_rankOf_4 := zMet_sm m_X9_rankOfa ev_X9_rankOf_4
noncomputable def h0_X9_rankOf_5 : zH 1 := (show zT 1 from ((25, 63, bg_202), (0, 256, zun 40 256 4294967296)), (2, (0, 0)))
noncomputable def h1_X9_rankOf_5 : zH 1 := (show zT 1 from ((25, 63, bg_202), (0, 256, zun 40 256 4294967296)), (2, (0, 0)))
theorem ev_X9_rankOf_5 : f_X9_rankOfa [zR 1, zI 2] h0_X9_rankOf_5 (zrk (zI 4294967299) h1_X9_rankOf_5) = true := by decide +kernel
noncomputable def g_X9_rankOf_5 {d : Nat} : List zV → zH d → zP d → Bool := zsmy [(0, 0), (1, 34)] [zR 1, zI 2] h0_X9_rankOf_5 (zI 4294967299) h1_X9_rankOf_5
theorem mg_X9_rankOf_5 {d : Nat} : zMet (d := d) X_X9_rankOf yX9_rankOf 2 g_X9_rankOf_5 := zMet_sm m_X9_rankOfa ev_X9_rankOf_5
noncomputable def h0_X9_rankOf_6 : zH 1 := (show zT 1 from ((25, 63, bg_203), (0, 256, zun 40 256 4294967296)), (2, (0, 0)))
noncomputable def h1_X9_rankOf_6 : zH 1 := (show zT 1 from ((25, 63, bg_203), (0, 256, zun 40 256 4294967296)), (2, (0, 0)))
theorem ev_X9_rankOf_6 : f_X9_rankOfa [zR 1, zI 2] h0_X9_rankOf_6 (zrk (zI 4294967299) h1_X9_rankOf_6) = true := by decide +kernel
noncomputable def g_X9_rankOf_6 {d : Nat} : List zV → zH d → zP d → Bool := zsmy [(0, 0), (1, 34)] [zR 1, zI 2] h0_X9_rankOf_6 (zI 4294967299) h1_X9_rankOf_6
theorem mg_X9_rankOf_6 {d : Nat} : zMet (d := d) X_X9_rankOf yX9_rankOf 2 g_X9_rankOf_6 := zMet_sm m_X9_rankOfa ev_X9_rankOf_6
noncomputable def h0_X9_rankOf_7 : zH 1 := (show zT 1 from ((25, 63, bg_204), (0, 256, zun 40 256 4294967296)), (2, (0, 0)))
noncomputable def h1_X9_rankOf_7 : zH 1 := (show zT 1 from ((25, 63, bg_204), (0, 256, zun 40 256 4294967296)), (2, (0, 0)))
theorem ev_X9_rankOf_7 : f_X9_rankOfa [zR 1, zI 2] h0_X9_rankOf_7 (zrk (zI 4294967299) h1_X9_rankOf_7) = true := by decide +kernel
noncomputable def g_X9_rankOf_7 {d : Nat} : List zV → zH d → zP d → Bool := zsmy [(0, 0), (1, 34)] [zR 1, zI 2] h0_X9_rankOf_7 (zI 4294967299) h1_X9_rankOf_7
theorem mg_X9_rankOf_7 {d : Nat} : zMet (d := d) X_X9_rankOf yX9_rankOf 2 g_X9_rankOf_7 := zMet_sm m_X9_rankOfa ev_X9_rankOf_7
noncomputable def h0_X9_rankOf_8 : zH 1 := (show zT 1 from ((25, 63, bg_201), (0, 256, zun 40 256 4294967296)), (2, (0, 0)))
noncomputable def h1_X9_rankOf_8 : zH 1 := (show zT 1 from ((25, 63, bg_201), (0, 256, zun 40 256 4294967296)), (2, (0, 0)))
theorem ev_X9_rankOf_8 : f_X9_rankOfa [zR 1, zI 3] h0_X9_rankOf_8 (zrk (zI 4294967300) h1_X9_rankOf_8) = true := by decide +kernel
noncomputable def g_X9_rankOf_8 {d : Nat} : List zV → zH d → zP d → Bool := zsmy [(0, 0), (1, 34)] [zR 1, zI 3] h0_X9_rankOf_8 (zI 4294967300) h1_X9_rankOf_8
theorem mg_X9_rankOf_8 {d : Nat} : zMet (d := d) X_X9_rankOf yX9_rankOf 2 g_X9_rankOf_8 := zMet_sm m_X9_rankOfa ev_X9_rankOf_8
noncomputable def h0_X9_rankOf_9 : zH 1 := (show zT 1 from ((25, 63, bg_202), (0, 256, zun 40 256 4294967296)), (2, (0, 0)))
noncomputable def h1_X9_rankOf_9 : zH 1 := (show zT 1 from ((25, 63, bg_202), (0, 256, zun 40 256 4294967296)), (2, (0, 0)))
theorem ev_X9_rankOf_9 : f_X9_rankOfa [zR 1, zI 3] h0_X9_rankOf_9 (zrk (zI 4294967300) h1_X9_rankOf_9) = true := by decide +kernel
noncomputable def g_X9_rankOf_9 {d : Nat} : List zV → zH d → zP d → Bool := zsmy [(0, 0), (1, 34)] [zR 1, zI 3] h0_X9_rankOf_9 (zI 4294967300) h1_X9_rankOf_9
theorem mg_X9_rankOf_9 {d : Nat} : zMet (d := d) X_X9_rankOf yX9_rankOf 2 g_X9_rankOf_9 := zMet_sm m_X9_rankOfa ev_X9_rankOf_9
noncomputable def h0_X9_rankOf_10 : zH 1 := (show zT 1 from ((25, 63, bg_203), (0, 256, zun 40 256 4294967296)), (2, (0, 0)))
noncomputable def h1_X9_rankOf_10 : zH 1 := (show zT 1 from ((25, 63, bg_203), (0, 256, zun 40 256 4294967296)), (2, (0, 0)))
theorem ev_X9_rankOf_10 : f_X9_rankOfa [zR 1, zI 3] h0_X9_rankOf_10 (zrk (zI 4294967300) h1_X9_rankOf_10) = true := by decide +kernel
noncomputable def g_X9_rankOf_10 {d : Nat} : List zV → zH d → zP d → Bool := zsmy [(0, 0), (1, 34)] [zR 1, zI 3] h0_X9_rankOf_10 (zI 4294967300) h1_X9_rankOf_10
theorem mg_X9_rankOf_10 {d : Nat} : zMet (d := d) X_X9_rankOf yX9_rankOf 2 g_X9_rankOf_10 := zMet_sm m_X9_rankOfa ev_X9_rankOf_10
noncomputable def h0_X9_rankOf_11 : zH 1 := (show zT 1 from ((25, 63, bg_204), (0, 256, zun 40 256 4294967296)), (2, (0, 0)))
noncomputable def h1_X9_rankOf_11 : zH 1 := (show zT 1 from ((25, 63, bg_204), (0, 256, zun 40 256 4294967296)), (2, (0, 0)))
theorem ev_X9_rankOf_11 : f_X9_rankOfa [zR 1, zI 3] h0_X9_rankOf_11 (zrk (zI 4294967300) h1_X9_rankOf_11) = true := by decide +kernel
noncomputable def g_X9_rankOf_11 {d : Nat} : List zV → zH d → zP d → Bool := zsmy [(0, 0), (1, 34)] [zR 1, zI 3] h0_X9_rankOf_11 (zI 4294967300) h1_X9_rankOf_11
theorem mg_X9_rankOf_11 {d : Nat} : zMet (d := d) X_X9_rankOf yX9_rankOf 2 g_X9_rankOf_11 := zMet_sm m_X9_rankOfa ev_X9_rankOf_11
noncomputable def h0_X9_rankOf_12 : zH 1 := (show zT 1 from ((25, 63, bg_201), (0, 256, zun 40 256 4294967296)), (2, (0, 0)))
noncomputable def h1_X9_rankOf_12 : zH 1 := (show zT 1 from ((25, 63, bg_201), (0, 256, zun 40 256 4294967296)), (2, (0, 0)))
theorem ev_X9_rankOf_12 : f_X9_rankOfa [zR 1, zI 4] h0_X9_rankOf_12 (zrk (zI 4294967301) h1_X9_rankOf_12) = true := by decide +kernel
noncomputable def g_X9_rankOf_12 {d : Nat} : List zV → zH d → zP d → Bool := zsmy [(0, 0), (1, 34)] [zR 1, zI 4] h0_X9_rankOf_12 (zI 4294967301) h1_X9_rankOf_12
theorem mg_X9_rankOf_12 {d : Nat} : zMet (d := d) X_X9_rankOf yX9_rankOf 2 g_X9_rankOf_12 := zMet_sm m_X9_rankOfa ev_X9_rankOf_12
noncomputable def h0_X9_rankOf_13 : zH 1 := (show zT 1 from ((25, 63, bg_201), (0, 256, zun 40 256 4294967296)), (2, (0, 0)))
noncomputable def h1_X9_rankOf_13 : zH 1 := (show zT 1 from ((25, 63, bg_201), (0, 256, zun 40 256 4294967296)), (2, (0, 0)))
theorem ev_X9_rankOf_13 : f_X9_rankOfa [zR 1, zI 5] h0_X9_rankOf_13 (zrk (zI 4294967302) h1_X9_rankOf_13) = true := by decide +kernel
noncomputable def g_X9_rankOf_13 {d : Nat} : List zV → zH d → zP d → Bool := zsmy [(0, 0), (1, 34)] [zR 1, zI 5] h0_X9_rankOf_13 (zI 4294967302) h1_X9_rankOf_13
theorem mg_X9_rankOf_13 {d : Nat} : zMet (d := d) X_X9_rankOf yX9_rankOf 2 g_X9_rankOf_13 := zMet_sm m_X9_rankOfa ev_X9_rankOf_13
noncomputable def h0_X9_rankOf_14 : zH 1 := (show zT 1 from ((25, 63, bg_201), (0, 256, zun 40 256 4294967296)), (2, (0, 0)))
noncomputable def h1_X9_rankOf_14 : zH 1 := (show zT 1 from ((25, 63, bg_201), (0, 256, zun 40 256 4294967296)), (2, (0, 0)))
theorem ev_X9_rankOf_14 : f_X9_rankOfa [zR 1, zI 6] h0_X9_rankOf_14 (zrk (zI 4294967303) h1_X9_rankOf_14) = true := by decide +kernel
noncomputable def g_X9_rankOf_14 {d : Nat} : List zV → zH d → zP d → Bool := zsmy [(0, 0), (1, 34)] [zR 1, zI 6] h0_X9_rankOf_14 (zI 4294967303) h1_X9_rankOf_14
theorem mg_X9_rankOf_14 {d : Nat} : zMet (d := d) X_X9_rankOf yX9_rankOf 2 g_X9_rankOf_14 := zMet_sm m_X9_rankOfa ev_X9_rankOf_14
noncomputable def h0_X9_rankOf_15 : zH 1 := (show zT 1 from ((25, 63, bg_202), (0, 256, zun 40 256 4294967296)), (2, (0, 0)))
noncomputable def h1_X9_rankOf_15 : zH 1 := (show zT 1 from ((25, 63, bg_202), (0, 256, zun 40 256 4294967296)), (2, (0, 0)))
theorem ev_X9_rankOf_15 : f_X9_rankOfa [zR 1, zI 4] h0_X9_rankOf_15 (zrk (zI 4294967301) h1_X9_rankOf_15) = true := by decide +kernel
noncomputable def g_X9_rankOf_15 {d : Nat} : List zV → zH d → zP d → Bool := zsmy [(0, 0), (1, 34)] [zR 1, zI 4] h0_X9_rankOf_15 (zI 4294967301) h1_X9_rankOf_15
theorem mg_X9_rankOf_15 {d : Nat} : zMet (d := d) X_X9_rankOf yX9_rankOf 2 g_X9_rankOf_15 := zMet_sm m_X9_rankOfa ev_X9_rankOf_15
noncomputable def h0_X9_rankOf_16 : zH 1 := (show zT 1 from ((25, 63, bg_202), (0, 256, zun 40 256 4294967296)), (2, (0, 0)))
noncomputable def h1_X9_rankOf_16 : zH 1 := (show zT 1 from ((25, 63, bg_202), (0, 256, zun 40 256 4294967296)), (2, (0, 0)))
theorem ev_X9_rankOf_16 : f_X9_rankOfa [zR 1, zI 5] h0_X9_rankOf_16 (zrk (zI 4294967302) h1_X9_rankOf_16) = true := by decide +kernel
noncomputable def g_X9_rankOf_16 {d : Nat} : List zV → zH d → zP d → Bool := zsmy [(0, 0), (1, 34)] [zR 1, zI 5] h0_X9_rankOf_16 (zI 4294967302) h1_X9_rankOf_16
theorem mg_X9_rankOf_16 {d : Nat} : zMet (d := d) X_X9_rankOf yX9_rankOf 2 g_X9_rankOf_16 := zMet_sm m_X9_rankOfa ev_X9_rankOf_16
noncomputable def h0_X9_rankOf_17 : zH 1 := (show zT 1 from ((25, 63, bg_202), (0, 256, zun 40 256 4294967296)), (2, (0, 0)))
noncomputable def h1_X9_rankOf_17 : zH 1 := (show zT 1 from ((25, 63, bg_202), (0, 256, zun 40 256 4294967296)), (2, (0, 0)))
theorem ev_X9_rankOf_17 : f_X9_rankOfa [zR 1, zI 6] h0_X9_rankOf_17 (zrk (zI 4294967303) h1_X9_rankOf_17) = true := by decide +kernel
noncomputable def g_X9_rankOf_17 {d : Nat} : List zV → zH d → zP d → Bool := zsmy [(0, 0), (1, 34)] [zR 1, zI 6] h0_X9_rankOf_17 (zI 4294967303) h1_X9_rankOf_17
theorem mg_X9_rankOf_17 {d : Nat} : zMet (d := d) X_X9_rankOf yX9_rankOf 2 g_X9_rankOf_17 := zMet_sm m_X9_rankOfa ev_X9_rankOf_17
noncomputable def h0_X9_rankOf_18 : zH 1 := (show zT 1 from ((25, 63, bg_203), (0, 256, zun 40 256 4294967296)), (2, (0, 0)))
noncomputable def h1_X9_rankOf_18 : zH 1 := (show zT 1 from ((25, 63, bg_203), (0, 256, zun 40 256 4294967296)), (2, (0, 0)))
theorem ev_X9_rankOf_18 : f_X9_rankOfa [zR 1, zI 4] h0_X9_rankOf_18 (zrk (zI 4294967301) h1_X9_rankOf_18) = true := by decide +kernel
noncomputable def g_X9_rankOf_18 {d : Nat} : List zV → zH d → zP d → Bool := zsmy [(0, 0), (1, 34)] [zR 1, zI 4] h0_X9_rankOf_18 (zI 4294967301) h1_X9_rankOf_18
theorem mg_X9_rankOf_18 {d : Nat} : zMet (d := d) X_X9_rankOf yX9_rankOf 2 g_X9_rankOf_18 := zMet_sm m_X9_rankOfa ev_X9_rankOf_18
noncomputable def h0_X9_rankOf_19 : zH 1 := (show zT 1 from ((25, 63, bg_203), (0, 256, zun 40 256 4294967296)), (2, (0, 0)))
noncomputable def h1_X9_rankOf_19 : zH 1 := (show zT 1 from ((25, 63, bg_203), (0, 256, zun 40 256 4294967296)), (2, (0, 0)))
theorem ev_X9_rankOf_19 : f_X9_rankOfa [zR 1, zI 5] h0_X9_rankOf_19 (zrk (zI 4294967302) h1_X9_rankOf_19) = true := by decide +kernel
noncomputable def g_X9_rankOf_19 {d : Nat} : List zV → zH d → zP d → Bool := zsmy [(0, 0), (1, 34)] [zR 1, zI 5] h0_X9_rankOf_19 (zI 4294967302) h1_X9_rankOf_19
theorem mg_X9_rankOf_19 {d : Nat} : zMet (d := d) X_X9_rankOf yX9_rankOf 2 g_X9_rankOf_19 := zMet_sm m_X9_rankOfa ev_X9_rankOf_19
noncomputable def h0_X9_rankOf_20 : zH 1 := (show zT 1 from ((25, 63, bg_203), (0, 256, zun 40 256 4294967296)), (2, (0, 0)))
noncomputable def h1_X9_rankOf_20 : zH 1 := (show zT 1 from ((25, 63, bg_203), (0, 256, zun 40 256 4294967296)), (2, (0, 0)))
theorem ev_X9_rankOf_20 : f_X9_rankOfa [zR 1, zI 6] h0_X9_rankOf_20 (zrk (zI 4294967303) h1_X9_rankOf_20) = true := by decide +kernel
noncomputable def g_X9_rankOf_20 {d : Nat} : List zV → zH d → zP d → Bool := zsmy [(0, 0), (1, 34)] [zR 1, zI 6] h0_X9_rankOf_20 (zI 4294967303) h1_X9_rankOf_20
theorem mg_X9_rankOf_20 {d : Nat} : zMet (d := d) X_X9_rankOf yX9_rankOf 2 g_X9_rankOf_20 := zMet_sm m_X9_rankOfa ev_X9_rankOf_20
noncomputable def h0_X9_rankOf_21 : zH 1 := (show zT 1 from ((25, 63, bg_204), (0, 256, zun 40 256 4294967296)), (2, (0, 0)))
noncomputable def h1_X9_rankOf_21 : zH 1 := (show zT 1 from ((25, 63, bg_204), (0, 256, zun 40 256 4294967296)), (2, (0, 0)))
theorem ev_X9_rankOf_21 : f_X9_rankOfa [zR 1, zI 4] h0_X9_rankOf_21 (zrk (zI 4294967301) h1_X9_rankOf_21) = true := by decide +kernel
noncomputable def g_X9_rankOf_21 {d : Nat} : List zV → zH d → zP d → Bool := zsmy [(0, 0), (1, 34)] [zR 1, zI 4] h0_X9_rankOf_21 (zI 4294967301) h1_X9_rankOf_21
theorem mg_X9_rankOf_21 {d : Nat} : zMet (d := d) X_X9_rankOf yX9_rankOf 2 g_X9_rankOf_21 := zMet_sm m_X9_rankOfa ev_X9_rankOf_21
noncomputable def h0_X9_rankOf_22 : zH 1 := (show zT 1 from ((25, 63, bg_204), (0, 256, zun 40 256 4294967296)), (2, (0, 0)))
noncomputable def h1_X9_rankOf_22 : zH 1 := (show zT 1 from ((25, 63, bg_204), (0, 256, zun 40 256 4294967296)), (2, (0, 0)))
theorem ev_X9_rankOf_22 : f_X9_rankOfa [zR 1, zI 5] h0_X9_rankOf_22 (zrk (zI 4294967302) h1_X9_rankOf_22) = true := by decide +kernel
noncomputable def g_X9_rankOf_22 {d : Nat} : List zV → zH d → zP d → Bool := zsmy [(0, 0), (1, 34)] [zR 1, zI 5] h0_X9_rankOf_22 (zI 4294967302) h1_X9_rankOf_22
theorem mg_X9_rankOf_22 {d : Nat} : zMet (d := d) X_X9_rankOf yX9_rankOf 2 g_X9_rankOf_22 := zMet_sm m_X9_rankOfa ev_X9_rankOf_22
noncomputable def h0_X9_rankOf_23 : zH 1 := (show zT 1 from ((25, 63, bg_204), (0, 256, zun 40 256 4294967296)), (2, (0, 0)))
noncomputable def h1_X9_rankOf_23 : zH 1 := (show zT 1 from ((25, 63, bg_204), (0, 256, zun 40 256 4294967296)), (2, (0, 0)))
theorem ev_X9_rankOf_23 : f_X9_rankOfa [zR 1, zI 6] h0_X9_rankOf_23 (zrk (zI 4294967303) h1_X9_rankOf_23) = true := by decide +kernel
noncomputable def g_X9_rankOf_23 {d : Nat} : List zV → zH d → zP d → Bool := zsmy [(0, 0), (1, 34)] [zR 1, zI 6] h0_X9_rankOf_23 (zI 4294967303) h1_X9_rankOf_23
theorem mg_X9_rankOf_23 {d : Nat} : zMet (d := d) X_X9_rankOf yX9_rankOf 2 g_X9_rankOf_23 := zMet_sm m_X9_rankOfa ev_X9_rankOf_23
noncomputable def h0_X9_rankOf_24 : zH 1 := (show zT 1 from ((25, 63, bg_201), (0, 256, zun 40 256 4294967296)), (2, (0, 0)))
noncomputable def h1_X9_rankOf_24 : zH 1 := (show zT 1 from ((25, 63, bg_201), (0, 256, zun 40 256 4294967296)), (2, (0, 0)))
theorem ev_X9_rankOf_24 : f_X9_rankOfa [zR 1, zI 9] h0_X9_rankOf_24 (zrk (zI 4294967306) h1_X9_rankOf_24) = true := by decide +kernel
noncomputable def g_X9_rankOf_24 {d : Nat} : List zV → zH d → zP d → Bool := zsmy [(0, 0), (1, 34)] [zR 1, zI 9] h0_X9_rankOf_24 (zI 4294967306) h1_X9_rankOf_24
theorem mg_X9_rankOf_24 {d : Nat} : zMet (d := d) X_X9_rankOf yX9_rankOf 2 g_X9_rankOf_24 := zMet_sm m_X9_rankOfa ev_X9_rankOf_24
noncomputable def h0_X9_rankOf_25 : zH 1 := (show zT 1 from ((25, 63, bg_201), (0, 256, zun 40 256 4294967296)), (2, (0, 0)))
noncomputable def h1_X9_rankOf_25 : zH 1 := (show zT 1 from ((25, 63, bg_201), (0, 256, zun 40 256 4294967296)), (2, (0, 0)))
theorem ev_X9_rankOf_25 : f_X9_rankOfa [zR 1, zI 10] h0_X9_rankOf_25 (zrk (zI 4294967307) h1_X9_rankOf_25) = true := by decide +kernel
noncomputable def g_X9_rankOf_25 {d : Nat} : List zV → zH d → zP d → Bool := zsmy [(0, 0), (1, 34)] [zR 1, zI 10] h0_X9_rankOf_25 (zI 4294967307) h1_X9_rankOf_25
theorem mg_X9_rankOf_25 {d : Nat} : zMet (d := d) X_X9_rankOf yX9_rankOf 2 g_X9_rankOf_25 := zMet_sm m_X9_rankOfa ev_X9_rankOf_25
noncomputable def h0_X9_rankOf_26 : zH 1 := (show zT 1 from ((25, 63, bg_201), (0, 256, zun 40 256 4294967296)), (2, (0, 0)))
noncomputable def h1_X9_rankOf_26 : zH 1 := (show zT 1 from ((25, 63, bg_201), (0, 256, zun 40 256 4294967296)), (2, (0, 0)))
theorem ev_X9_rankOf_26 : f_X9_rankOfa [zR 1, zI 16] h0_X9_rankOf_26 (zrk (zI 4294967313) h1_X9_rankOf_26) = true := by decide +kernel
noncomputable def g_X9_rankOf_26 {d : Nat} : List zV → zH d → zP d → Bool := zsmy [(0, 0), (1, 34)] [zR 1, zI 16] h0_X9_rankOf_26 (zI 4294967313) h1_X9_rankOf_26
theorem mg_X9_rankOf_26 {d : Nat} : zMet (d := d) X_X9_rankOf yX9_rankOf 2 g_X9_rankOf_26 := zMet_sm m_X9_rankOfa ev_X9_rankOf_26
noncomputable def h0_X9_rankOf_27 : zH 1 := (show zT 1 from ((25, 63, bg_202), (0, 256, zun 40 256 4294967296)), (2, (0, 0)))
noncomputable def h1_X9_rankOf_27 : zH 1 := (show zT 1 from ((25, 63, bg_202), (0, 256, zun 40 256 4294967296)), (2, (0, 0)))
theorem ev_X9_rankOf_27 : f_X9_rankOfa [zR 1, zI 9] h0_X9_rankOf_27 (zrk (zI 4294967306) h1_X9_rankOf_27) = true := by decide +kernel
noncomputable def g_X9_rankOf_27 {d : Nat} : List zV → zH d → zP d → Bool := zsmy [(0, 0), (1, 34)] [zR 1, zI 9] h0_X9_rankOf_27 (zI 4294967306) h1_X9_rankOf_27
theorem mg_X9_rankOf_27 {d : Nat} : zMet (d := d) X_X9_rankOf yX9_rankOf 2 g_X9_rankOf_27 := zMet_sm m_X9_rankOfa ev_X9_rankOf_27
noncomputable def h0_X9_rankOf_28 : zH 1 := (show zT 1 from ((25, 63, bg_202), (0, 256, zun 40 256 4294967296)), (2, (0, 0)))
noncomputable def h1_X9_rankOf_28 : zH 1 := (show zT 1 from ((25, 63, bg_202), (0, 256, zun 40 256 4294967296)), (2, (0, 0)))
theorem ev_X9_rankOf_28 : f_X9_rankOfa [zR 1, zI 10] h0_X9_rankOf_28 (zrk (zI 4294967307) h1_X9_rankOf_28) = true := by decide +kernel
noncomputable def g_X9_rankOf_28 {d : Nat} : List zV → zH d → zP d → Bool := zsmy [(0, 0), (1, 34)] [zR 1, zI 10] h0_X9_rankOf_28 (zI 4294967307) h1_X9_rankOf_28
theorem mg_X9_rankOf_28 {d : Nat} : zMet (d := d) X_X9_rankOf yX9_rankOf 2 g_X9_rankOf_28 := zMet_sm m_X9_rankOfa ev_X9_rankOf_28
noncomputable def h0_X9_rankOf_29 : zH 1 := (show zT 1 from ((25, 63, bg_202), (0, 256, zun 40 256 4294967296)), (2, (0, 0)))
noncomputable def h1_X9_rankOf_29 : zH 1 := (show zT 1 from ((25, 63, bg_202), (0, 256, zun 40 256 4294967296)), (2, (0, 0)))
theorem ev_X9_rankOf_29 : f_X9_rankOfa [zR 1, zI 16] h0_X9_rankOf_29 (zrk (zI 4294967313) h1_X9_rankOf_29) = true := by decide +kernel
noncomputable def g_X9_rankOf_29 {d : Nat} : List zV → zH d → zP d → Bool := zsmy [(0, 0), (1, 34)] [zR 1, zI 16] h0_X9_rankOf_29 (zI 4294967313) h1_X9_rankOf_29
theorem mg_X9_rankOf_29 {d : Nat} : zMet (d := d) X_X9_rankOf yX9_rankOf 2 g_X9_rankOf_29 := zMet_sm m_X9_rankOfa ev_X9_rankOf_29
noncomputable def h0_X9_rankOf_30 : zH 1 := (show zT 1 from ((25, 63, bg_203), (0, 256, zun 40 256 4294967296)), (2, (0, 0)))
noncomputable def h1_X9_rankOf_30 : zH 1 := (show zT 1 from ((25, 63, bg_203), (0, 256, zun 40 256 4294967296)), (2, (0, 0)))
theorem ev_X9_rankOf_30 : f_X9_rankOfa [zR 1, zI 9] h0_X9_rankOf_30 (zrk (zI 4294967306) h1_X9_rankOf_30) = true := by decide +kernel
noncomputable def g_X9_rankOf_30 {d : Nat} : List zV → zH d → zP d → Bool := zsmy [(0, 0), (1, 34)] [zR 1, zI 9] h0_X9_rankOf_30 (zI 4294967306) h1_X9_rankOf_30
theorem mg_X9_rankOf_30 {d : Nat} : zMet (d := d) X_X9_rankOf yX9_rankOf 2 g_X9_rankOf_30 := zMet_sm m_X9_rankOfa ev_X9_rankOf_30
noncomputable def h0_X9_rankOf_31 : zH 1 := (show zT 1 from ((25, 63, bg_203), (0, 256, zun 40 256 4294967296)), (2, (0, 0)))
noncomputable def h1_X9_rankOf_31 : zH 1 := (show zT 1 from ((25, 63, bg_203), (0, 256, zun 40 256 4294967296)), (2, (0, 0)))
theorem ev_X9_rankOf_31 : f_X9_rankOfa [zR 1, zI 10] h0_X9_rankOf_31 (zrk (zI 4294967307) h1_X9_rankOf_31) = true := by decide +kernel
noncomputable def g_X9_rankOf_31 {d : Nat} : List zV → zH d → zP d → Bool := zsmy [(0, 0), (1, 34)] [zR 1, zI 10] h0_X9_rankOf_31 (zI 4294967307) h1_X9_rankOf_31
theorem mg_X9_rankOf_31 {d : Nat} : zMet (d := d) X_X9_rankOf yX9_rankOf 2 g_X9_rankOf_31 := zMet_sm m_X9_rankOfa ev_X9_rankOf_31
noncomputable def h0_X9_rankOf_32 : zH 1 := (show zT 1 from ((25, 63, bg_203), (0, 256, zun 40 256 4294967296)), (2, (0, 0)))
noncomputable def h1_X9_rankOf_32 : zH 1 := (show zT 1 from ((25, 63, bg_203), (0, 256, zun 40 256 4294967296)), (2, (0, 0)))
theorem ev_X9_rankOf_32 : f_X9_rankOfa [zR 1, zI 16] h0_X9_rankOf_32 (zrk (zI 4294967313) h1_X9_rankOf_32) = true := by decide +kernel
noncomputable def g_X9_rankOf_32 {d : Nat} : List zV → zH d → zP d → Bool := zsmy [(0, 0), (1, 34)] [zR 1, zI 16] h0_X9_rankOf_32 (zI 4294967313) h1_X9_rankOf_32
theorem mg_X9_rankOf_32 {d : Nat} : zMet (d := d) X_X9_rankOf yX9_rankOf 2 g_X9_rankOf_32 := zMet_sm m_X9_rankOfa ev_X9_rankOf_32
noncomputable def h0_X9_rankOf_33 : zH 1 := (show zT 1 from ((25, 63, bg_204), (0, 256, zun 40 256 4294967296)), (2, (0, 0)))
noncomputable def h1_X9_rankOf_33 : zH 1 := (show zT 1 from ((25, 63, bg_204), (0, 256, zun 40 256 4294967296)), (2, (0, 0)))
theorem ev_X9_rankOf_33 : f_X9_rankOfa [zR 1, zI 9] h0_X9_rankOf_33 (zrk (zI 4294967306) h1_X9_rankOf_33) = true := by decide +kernel
noncomputable def g_X9_rankOf_33 {d : Nat} : List zV → zH d → zP d → Bool := zsmy [(0, 0), (1, 34)] [zR 1, zI 9] h0_X9_rankOf_33 (zI 4294967306) h1_X9_rankOf_33
theorem mg_X9_rankOf_33 {d : Nat} : zMet (d := d) X_X9_rankOf yX9_rankOf 2 g_X9_rankOf_33 := zMet_sm m_X9_rankOfa ev_X9_rankOf_33
noncomputable def h0_X9_rankOf_34 : zH 1 := (show zT 1 from ((25, 63, bg_204), (0, 256, zun 40 256 4294967296)), (2, (0, 0)))
noncomputable def h1_X9_rankOf_34 : zH 1 := (show zT 1 from ((25, 63, bg_204), (0, 256, zun 40 256 4294967296)), (2, (0, 0)))
theorem ev_X9_rankOf_34 : f_X9_rankOfa [zR 1, zI 10] h0_X9_rankOf_34 (zrk (zI 4294967307) h1_X9_rankOf_34) = true := by decide +kernel
noncomputable def g_X9_rankOf_34 {d : Nat} : List zV → zH d → zP d → Bool := zsmy [(0, 0), (1, 34)] [zR 1, zI 10] h0_X9_rankOf_34 (zI 4294967307) h1_X9_rankOf_34
theorem mg_X9_rankOf_34 {d : Nat} : zMet (d := d) X_X9_rankOf yX9_rankOf 2 g_X9_rankOf_34 := zMet_sm m_X9_rankOfa ev_X9_rankOf_34
noncomputable def h0_X9_rankOf_35 : zH 1 := (show zT 1 from ((25, 63, bg_204), (0, 256, zun 40 256 4294967296)), (2, (0, 0)))
noncomputable def h1_X9_rankOf_35 : zH 1 := (show zT 1 from ((25, 63, bg_204), (0, 256, zun 40 256 4294967296)), (2, (0, 0)))
theorem ev_X9_rankOf_35 : f_X9_rankOfa [zR 1, zI 16] h0_X9_rankOf_35 (zrk (zI 4294967313) h1_X9_rankOf_35) = true := by decide +kernel
noncomputable def g_X9_rankOf_35 {d : Nat} : List zV → zH d → zP d → Bool := zsmy [(0, 0), (1, 34)] [zR 1, zI 16] h0_X9_rankOf_35 (zI 4294967313) h1_X9_rankOf_35
theorem mg_X9_rankOf_35 {d : Nat} : zMet (d := d) X_X9_rankOf yX9_rankOf 2 g_X9_rankOf_35 := zMet_sm m_X9_rankOfa ev_X9_rankOf_35
set_option maxRecDepth 100000 in
noncomputable def gs_X9_rankOf {d : Nat} : List zV → zH d → zP d → Bool := zwt (hsK (hsF 0 [] 1) (hsL 1)) [(3074, g_X9_rankOf_0), (4098, g_X9_rankOf_1), (6146, g_X9_rankOf_2), (8194, g_X9_rankOf_3), (3075, g_X9_rankOf_4), (4099, g_X9_rankOf_5), (6147, g_X9_rankOf_6), (8195, g_X9_rankOf_7), (3076, g_X9_rankOf_8), (4100, g_X9_rankOf_9), (6148, g_X9_rankOf_10), (8196, g_X9_rankOf_11), (3077, g_X9_rankOf_12), (3078, g_X9_rankOf_13), (3079, g_X9_rankOf_14), (4101, g_X9_rankOf_15), (4102, g_X9_rankOf_16), (4103, g_X9_rankOf_17), (6149, g_X9_rankOf_18), (6150, g_X9_rankOf_19), (6151, g_X9_rankOf_20), (8197, g_X9_rankOf_21), (8198, g_X9_rankOf_22), (8199, g_X9_rankOf_23), (3082, g_X9_rankOf_24), (3083, g_X9_rankOf_25), (3089, g_X9_rankOf_26), (4106, g_X9_rankOf_27), (4107, g_X9_rankOf_28), (4113, g_X9_rankOf_29), (6154, g_X9_rankOf_30), (6155, g_X9_rankOf_31), (6161, g_X9_rankOf_32), (8202, g_X9_rankOf_33), (8203, g_X9_rankOf_34), (8209, g_X9_rankOf_35)]
set_option maxRecDepth 100000 in
theorem mgs_X9_rankOf {d : Nat} : zMet (d := d) X_X9_rankOf yX9_rankOf 2 gs_X9_rankOf := zMet_wt (hsK_ok hsF_ok hsL_ok) (zwt_c mg_X9_rankOf_0 (zwt_c mg_X9_rankOf_1 (zwt_c mg_X9_rankOf_2 (zwt_c mg_X9_rankOf_3 (zwt_c mg_X9_rankOf_4 (zwt_c mg_X9_rankOf_5 (zwt_c mg_X9_rankOf_6 (zwt_c mg_X9_rankOf_7 (zwt_c mg_X9_rankOf_8 (zwt_c mg_X9_rankOf_9 (zwt_c mg_X9_rankOf_10 (zwt_c mg_X9_rankOf_11 (zwt_c mg_X9_rankOf_12 (zwt_c mg_X9_rankOf_13 (zwt_c mg_X9_rankOf_14 (zwt_c mg_X9_rankOf_15 (zwt_c mg_X9_rankOf_16 (zwt_c mg_X9_rankOf_17 (zwt_c mg_X9_rankOf_18 (zwt_c mg_X9_rankOf_19 (zwt_c mg_X9_rankOf_20 (zwt_c mg_X9_rankOf_21 (zwt_c mg_X9_rankOf_22 (zwt_c mg_X9_rankOf_23 (zwt_c mg_X9_rankOf_24 (zwt_c mg_X9_rankOf_25 (zwt_c mg_X9_rankOf_26 (zwt_c mg_X9_rankOf_27 (zwt_c mg_X9_rankOf_28 (zwt_c mg_X9_rankOf_29 (zwt_c mg_X9_rankOf_30 (zwt_c mg_X9_rankOf_31 (zwt_c mg_X9_rankOf_32 (zwt_c mg_X9_rankOf_33 (zwt_c mg_X9_rankOf_34 (zwt_c mg_X9_rankOf_35 zwt_n))))))))))))))))))))))))))))))))))))
end
section
/-! the reference by summaries, by program -/
noncomputable def lX9_movesa_28 {d : Nat} (P : zP d) (r28 : zK d) (r5 : zK d) : zK d := (xild 6 (xild 5 (xcmpS tgeR rlGe rhS rlS rhLt (xild 3 (xild 5 (xbin zaddR (xist 3 (xincR 4 1 r5))))) (xald 0 (xgfR 25 33 (xild 3 (xild 6 (xbin zaddR (xild 3 (xild 6 (xild 2 (xbin zaddR (xild 5 (xbinN zremR (xbin zaddR (xasQ 0 (fun v => v) (xincR 6 1 r28)))))))))))))))))
set_option maxRecDepth 100000 in
set_option maxHeartbeats 4000000 in
theorem slX9_movesa_28 {d : Nat} [zGh] (P : zP d) (r28 : zK d) (r5 : zK d) (hr28 : zSimJ 1 X_X9_moves 2 P 28 r28) (hr5 : zSimJ 1 X_X9_moves 2 P 5 r5) : zSim X_X9_moves 2 P 28 (lX9_movesa_28 P r28 r5) := by
  unfold lX9_movesa_28
  refine sm_iload (pc := 28) (n := 6) dX9_moves_28 ?_
  refine sm_iload (pc := 30) (n := 5) dX9_moves_30 ?_
  refine sm_icmpS_ge (pc := 32) (tgt := 59) dX9_moves_32 (by decide) ?_ ?_
  · skip
    refine sm_iload_n (pc := 59) (n := 3) dX9_moves_59 rfl ?_
    refine sm_iload (pc := 60) (n := 5) dX9_moves_60 ?_
    refine sm_iaddR (pc := 62) dX9_moves_62 ?_
    refine sm_istore_n (pc := 63) (n := 3) dX9_moves_63 rfl ?_
    refine sm_iincR (pc := 64) (n := 4) dX9_moves_64 zc_i_1 ?_
    refine sm_goto (pc := 67) (tgt := 5) dX9_moves_67 (by decide) ?_
    exact hr5.use
  · skip
    refine sm_aload_n (pc := 35) (n := 0) dX9_moves_35 rfl ?_
    refine gf_X9_84 (pc := 36) rfl dX9_moves_36 ?_
    refine sm_iload_n (pc := 39) (n := 3) dX9_moves_39 rfl ?_
    refine sm_iload (pc := 40) (n := 6) dX9_moves_40 ?_
    refine sm_iaddR (pc := 42) dX9_moves_42 ?_
    refine sm_iload_n (pc := 43) (n := 3) dX9_moves_43 rfl ?_
    refine sm_iload (pc := 44) (n := 6) dX9_moves_44 ?_
    refine sm_iload_n (pc := 46) (n := 2) dX9_moves_46 rfl ?_
    refine sm_iaddR (pc := 47) dX9_moves_47 ?_
    refine sm_iload (pc := 48) (n := 5) dX9_moves_48 ?_
    refine sm_iremR (pc := 50) dX9_moves_50 ?_
    refine sm_iaddR (pc := 51) dX9_moves_51 ?_
    refine sm_iastoreQ (pc := 52) dX9_moves_52 ?_
    refine sm_iincR (pc := 53) (n := 6) dX9_moves_53 zc_i_1 ?_
    refine sm_goto (pc := 56) (tgt := 28) dX9_moves_56 (by decide) ?_
    exact hr28.use
noncomputable def lX9_movesa_5 {d : Nat} (P : zP d) (r5 : zK d) : zK d := (xild 4 (xald 0 (xgfR 25 4 (xild 1 (xalQ 0 (xcmpS tgeR rlGe rhS rlS rhLt (xvret P) (xald 0 (xild 1 (xild 4 (xcV 25 3 0 0 (zstr f_X9_partOf) (xist 5 (xpI 0 (xist 6 (xloop (fun r28 => (lX9_movesa_28 P r28 r5)) 100000))))))))))))))
set_option maxRecDepth 100000 in
set_option maxHeartbeats 4000000 in
theorem slX9_movesa_5 {d : Nat} [zGh] (P : zP d) (r5 : zK d) (hr5 : zSimJ 1 X_X9_moves 2 P 5 r5) : zSim X_X9_moves 2 P 5 (lX9_movesa_5 P r5) := by
  unfold lX9_movesa_5
  refine sm_iload (pc := 5) (n := 4) dX9_moves_5 ?_
  refine sm_aload_n (pc := 7) (n := 0) dX9_moves_7 rfl ?_
  refine gf_X9_13 (pc := 8) rfl dX9_moves_8 ?_
  refine sm_iload_n (pc := 11) (n := 1) dX9_moves_11 rfl ?_
  refine sm_ialoadQ (pc := 12) dX9_moves_12 ?_
  refine sm_icmpS_ge (pc := 13) (tgt := 70) dX9_moves_13 (by decide) ?_ ?_
  · skip
    exact sm_vreturn (pc := 70) dX9_moves_70 rfl
  · skip
    refine sm_aload_n (pc := 16) (n := 0) dX9_moves_16 rfl ?_
    refine sm_iload_n (pc := 17) (n := 1) dX9_moves_17 rfl ?_
    refine sm_iload (pc := 18) (n := 4) dX9_moves_18 ?_
    refine sm_cV (pc := 20) (ci := 9) (n := 3) (mc := 0) (ms := 0) rfl (zMet_str m_X9_partOf) (cr_X9_175 (X := X_X9_moves) (fr := 2) (frc := 1) (pc := 20) (mc := 0) (ms := 0) rfl (by decide) dX9_moves_20) ?_
    refine sm_istore (pc := 23) (n := 5) dX9_moves_23 ?_
    refine sm_iconst (pc := 25) dX9_moves_25 zc_i_0 ?_
    refine sm_istore (pc := 26) (n := 6) dX9_moves_26 ?_
    exact (sm_loopJ (j := 1) (fun G1 hG1 r28 hr28 => @slX9_movesa_28 d G1 P r28 r5 hr28 (hr5.mv hG1 (by decide))) _).use
noncomputable def b_X9_movesa {d : Nat} (P : zP d) : zK d := (xpI 1 (xist 3 (xpI 0 (xist 4 (xloop (fun r5 => (lX9_movesa_5 P r5)) 100000)))))
set_option maxRecDepth 100000 in
set_option maxHeartbeats 4000000 in
theorem s_X9_movesa {d : Nat} [zGh] (P : zP d) : zSim X_X9_moves 2 P 0 (b_X9_movesa P) := by
  unfold b_X9_movesa
  refine sm_iconst (pc := 0) dX9_moves_0 zc_i_1 ?_
  refine sm_istore_n (pc := 1) (n := 3) dX9_moves_1 rfl ?_
  refine sm_iconst (pc := 2) dX9_moves_2 zc_i_0 ?_
  refine sm_istore (pc := 3) (n := 4) dX9_moves_3 ?_
  exact (sm_loopJ (j := 1) (fun G1 hG1 r5 hr5 => @slX9_movesa_5 d G1 P r5 hr5) _).use
noncomputable def f_X9_movesa {d : Nat} : List zV → zH d → zP d → Bool := zfn 7 b_X9_movesa
theorem m_X9_movesa {d : Nat} : zMet (d := d) X_X9_moves yX9_moves 2 f_X9_movesa := zmet_mk (X := X_X9_moves) (by decide) rfl rfl s_X9_movesa

noncomputable def zk_99_zs1_99_k00_X9_moves_0 : zT 1 := @Prod.mk (zT 0) (zT 0) (25, 63, bg_205) (0, 7, 0x100000000010000000001000000000100000000010000000001000000000100000000)
noncomputable def h0_X9_moves_0 : zH 2 := (show zT 2 from (zk_99_zs1_99_k00_X9_moves_0, ((0, 66, bg_1), (0, 11, bg_8))), (4, (0, 0)))
noncomputable def h1_X9_moves_0 : zH 2 := (show zT 2 from (((25, 63, bg_205), (0, 7, 0x100000000010000000001000000000100000000010000000000000000010100000000)), ((0, 66, bg_1), (0, 11, bg_8))), (4, (0, 0)))
theorem ev_X9_moves_0 : f_X9_movesa [zR 1, zI 0, zI 1] h0_X9_moves_0 (zrk (zU) h1_X9_moves_0) = true := by decide +kernel
noncomputable def g_X9_moves_0 {d : Nat} : List zV → zH d → zP d → Bool := zsmy [(0, 0), (1, 33), (1, 3), (1, 4)] [zR 1, zI 0, zI 1] h0_X9_moves_0 (zU) h1_X9_moves_0
theorem mg_X9_moves_0 {d : Nat} : zMet (d := d) X_X9_moves yX9_moves 2 g_X9_moves_0 := zMet_sm m_X9_movesa ev_X9_moves_0
noncomputable def h0_X9_moves_1 : zH 2 := (show zT 2 from (zk_99_zs1_99_k00_X9_moves_0, ((0, 66, bg_2), (0, 11, bg_9))), (4, (0, 0)))
noncomputable def h1_X9_moves_1 : zH 2 := (show zT 2 from (((25, 63, bg_205), (0, 7, 0x100000000010000000001000000000100000000000000000200000000010100000000)), ((0, 66, bg_2), (0, 11, bg_9))), (4, (0, 0)))
theorem ev_X9_moves_1 : f_X9_movesa [zR 1, zI 1, zI 1] h0_X9_moves_1 (zrk (zU) h1_X9_moves_1) = true := by decide +kernel
noncomputable def g_X9_moves_1 {d : Nat} : List zV → zH d → zP d → Bool := zsmy [(0, 0), (1, 33), (1, 3), (1, 4)] [zR 1, zI 1, zI 1] h0_X9_moves_1 (zU) h1_X9_moves_1
theorem mg_X9_moves_1 {d : Nat} : zMet (d := d) X_X9_moves yX9_moves 2 g_X9_moves_1 := zMet_sm m_X9_movesa ev_X9_moves_1
noncomputable def h0_X9_moves_2 : zH 2 := (show zT 2 from (zk_99_zs1_99_k00_X9_moves_0, ((0, 66, bg_2), (0, 11, bg_9))), (4, (0, 0)))
noncomputable def h1_X9_moves_2 : zH 2 := (show zT 2 from (((25, 63, bg_205), (0, 7, 0x100000000010000000001000000000100000000000000000100000000020100000000)), ((0, 66, bg_2), (0, 11, bg_9))), (4, (0, 0)))
theorem ev_X9_moves_2 : f_X9_movesa [zR 1, zI 0, zI 1] h0_X9_moves_2 (zrk (zU) h1_X9_moves_2) = true := by decide +kernel
noncomputable def g_X9_moves_2 {d : Nat} : List zV → zH d → zP d → Bool := zsmy [(0, 0), (1, 33), (1, 3), (1, 4)] [zR 1, zI 0, zI 1] h0_X9_moves_2 (zU) h1_X9_moves_2
theorem mg_X9_moves_2 {d : Nat} : zMet (d := d) X_X9_moves yX9_moves 2 g_X9_moves_2 := zMet_sm m_X9_movesa ev_X9_moves_2
noncomputable def h0_X9_moves_3 : zH 2 := (show zT 2 from (zk_99_zs1_99_k00_X9_moves_0, ((0, 66, bg_2), (0, 11, bg_9))), (4, (0, 0)))
noncomputable def h1_X9_moves_3 : zH 2 := (show zT 2 from (((25, 63, bg_205), (0, 7, 0x100000000010000000001000000000100000000000000000200000000010100000000)), ((0, 66, bg_2), (0, 11, bg_9))), (4, (0, 0)))
theorem ev_X9_moves_3 : f_X9_movesa [zR 1, zI 0, zI 2] h0_X9_moves_3 (zrk (zU) h1_X9_moves_3) = true := by decide +kernel
noncomputable def g_X9_moves_3 {d : Nat} : List zV → zH d → zP d → Bool := zsmy [(0, 0), (1, 33), (1, 3), (1, 4)] [zR 1, zI 0, zI 2] h0_X9_moves_3 (zU) h1_X9_moves_3
theorem mg_X9_moves_3 {d : Nat} : zMet (d := d) X_X9_moves yX9_moves 2 g_X9_moves_3 := zMet_sm m_X9_movesa ev_X9_moves_3
noncomputable def h0_X9_moves_4 : zH 2 := (show zT 2 from (zk_99_zs1_99_k00_X9_moves_0, ((0, 66, bg_3), (0, 11, bg_10))), (4, (0, 0)))
noncomputable def h1_X9_moves_4 : zH 2 := (show zT 2 from (((25, 63, bg_205), (0, 7, 0x100000000010000000001000000000000000001000000000300000000020100000000)), ((0, 66, bg_3), (0, 11, bg_10))), (4, (0, 0)))
theorem ev_X9_moves_4 : f_X9_movesa [zR 1, zI 0, zI 1] h0_X9_moves_4 (zrk (zU) h1_X9_moves_4) = true := by decide +kernel
noncomputable def g_X9_moves_4 {d : Nat} : List zV → zH d → zP d → Bool := zsmy [(0, 0), (1, 33), (1, 3), (1, 4)] [zR 1, zI 0, zI 1] h0_X9_moves_4 (zU) h1_X9_moves_4
theorem mg_X9_moves_4 {d : Nat} : zMet (d := d) X_X9_moves yX9_moves 2 g_X9_moves_4 := zMet_sm m_X9_movesa ev_X9_moves_4
noncomputable def h0_X9_moves_5 : zH 2 := (show zT 2 from (zk_99_zs1_99_k00_X9_moves_0, ((0, 66, bg_3), (0, 11, bg_10))), (4, (0, 0)))
noncomputable def h1_X9_moves_5 : zH 2 := (show zT 2 from (((25, 63, bg_205), (0, 7, 0x100000000010000000001000000000000000003000000000200000000010100000000)), ((0, 66, bg_3), (0, 11, bg_10))), (4, (0, 0)))
theorem ev_X9_moves_5 : f_X9_movesa [zR 1, zI 0, zI 3] h0_X9_moves_5 (zrk (zU) h1_X9_moves_5) = true := by decide +kernel
noncomputable def g_X9_moves_5 {d : Nat} : List zV → zH d → zP d → Bool := zsmy [(0, 0), (1, 33), (1, 3), (1, 4)] [zR 1, zI 0, zI 3] h0_X9_moves_5 (zU) h1_X9_moves_5
theorem mg_X9_moves_5 {d : Nat} : zMet (d := d) X_X9_moves yX9_moves 2 g_X9_moves_5 := zMet_sm m_X9_movesa ev_X9_moves_5
noncomputable def h0_X9_moves_6 : zH 2 := (show zT 2 from (zk_99_zs1_99_k00_X9_moves_0, ((0, 66, bg_3), (0, 11, bg_10))), (4, (0, 0)))
noncomputable def h1_X9_moves_6 : zH 2 := (show zT 2 from (((25, 63, bg_205), (0, 7, 0x100000000010000000001000000000000000003000000000200000000010100000000)), ((0, 66, bg_3), (0, 11, bg_10))), (4, (0, 0)))
theorem ev_X9_moves_6 : f_X9_movesa [zR 1, zI 2, zI 1] h0_X9_moves_6 (zrk (zU) h1_X9_moves_6) = true := by decide +kernel
noncomputable def g_X9_moves_6 {d : Nat} : List zV → zH d → zP d → Bool := zsmy [(0, 0), (1, 33), (1, 3), (1, 4)] [zR 1, zI 2, zI 1] h0_X9_moves_6 (zU) h1_X9_moves_6
theorem mg_X9_moves_6 {d : Nat} : zMet (d := d) X_X9_moves yX9_moves 2 g_X9_moves_6 := zMet_sm m_X9_movesa ev_X9_moves_6
noncomputable def h0_X9_moves_7 : zH 2 := (show zT 2 from (zk_99_zs1_99_k00_X9_moves_0, ((0, 66, bg_3), (0, 11, bg_10))), (4, (0, 0)))
noncomputable def h1_X9_moves_7 : zH 2 := (show zT 2 from (((25, 63, bg_205), (0, 7, 0x100000000010000000001000000000000000003000000000100000000020100000000)), ((0, 66, bg_3), (0, 11, bg_10))), (4, (0, 0)))
theorem ev_X9_moves_7 : f_X9_movesa [zR 1, zI 1, zI 1] h0_X9_moves_7 (zrk (zU) h1_X9_moves_7) = true := by decide +kernel
noncomputable def g_X9_moves_7 {d : Nat} : List zV → zH d → zP d → Bool := zsmy [(0, 0), (1, 33), (1, 3), (1, 4)] [zR 1, zI 1, zI 1] h0_X9_moves_7 (zU) h1_X9_moves_7
theorem mg_X9_moves_7 {d : Nat} : zMet (d := d) X_X9_moves yX9_moves 2 g_X9_moves_7 := zMet_sm m_X9_movesa ev_X9_moves_7
noncomputable def h0_X9_moves_8 : zH 2 := (show zT 2 from (zk_99_zs1_99_k00_X9_moves_0, ((0, 66, bg_3), (0, 11, bg_10))), (4, (0, 0)))
noncomputable def h1_X9_moves_8 : zH 2 := (show zT 2 from (((25, 63, bg_205), (0, 7, 0x100000000010000000001000000000000000003000000000200000000010100000000)), ((0, 66, bg_3), (0, 11, bg_10))), (4, (0, 0)))
theorem ev_X9_moves_8 : f_X9_movesa [zR 1, zI 1, zI 2] h0_X9_moves_8 (zrk (zU) h1_X9_moves_8) = true := by decide +kernel
noncomputable def g_X9_moves_8 {d : Nat} : List zV → zH d → zP d → Bool := zsmy [(0, 0), (1, 33), (1, 3), (1, 4)] [zR 1, zI 1, zI 2] h0_X9_moves_8 (zU) h1_X9_moves_8
theorem mg_X9_moves_8 {d : Nat} : zMet (d := d) X_X9_moves yX9_moves 2 g_X9_moves_8 := zMet_sm m_X9_movesa ev_X9_moves_8
noncomputable def h0_X9_moves_9 : zH 2 := (show zT 2 from (zk_99_zs1_99_k00_X9_moves_0, ((0, 66, bg_4), (0, 11, bg_11))), (4, (0, 0)))
noncomputable def h1_X9_moves_9 : zH 2 := (show zT 2 from (((25, 63, bg_205), (0, 7, 0x100000000010000000000000000040000000001000000000300000000020100000000)), ((0, 66, bg_4), (0, 11, bg_11))), (4, (0, 0)))
theorem ev_X9_moves_9 : f_X9_movesa [zR 1, zI 1, zI 1] h0_X9_moves_9 (zrk (zU) h1_X9_moves_9) = true := by decide +kernel
noncomputable def g_X9_moves_9 {d : Nat} : List zV → zH d → zP d → Bool := zsmy [(0, 0), (1, 33), (1, 3), (1, 4)] [zR 1, zI 1, zI 1] h0_X9_moves_9 (zU) h1_X9_moves_9
theorem mg_X9_moves_9 {d : Nat} : zMet (d := d) X_X9_moves yX9_moves 2 g_X9_moves_9 := zMet_sm m_X9_movesa ev_X9_moves_9
noncomputable def h0_X9_moves_10 : zH 2 := (show zT 2 from (zk_99_zs1_99_k00_X9_moves_0, ((0, 66, bg_4), (0, 11, bg_11))), (4, (0, 0)))
noncomputable def h1_X9_moves_10 : zH 2 := (show zT 2 from (((25, 63, bg_205), (0, 7, 0x100000000010000000000000000040000000003000000000200000000010100000000)), ((0, 66, bg_4), (0, 11, bg_11))), (4, (0, 0)))
theorem ev_X9_moves_10 : f_X9_movesa [zR 1, zI 1, zI 3] h0_X9_moves_10 (zrk (zU) h1_X9_moves_10) = true := by decide +kernel
noncomputable def g_X9_moves_10 {d : Nat} : List zV → zH d → zP d → Bool := zsmy [(0, 0), (1, 33), (1, 3), (1, 4)] [zR 1, zI 1, zI 3] h0_X9_moves_10 (zU) h1_X9_moves_10
theorem mg_X9_moves_10 {d : Nat} : zMet (d := d) X_X9_moves yX9_moves 2 g_X9_moves_10 := zMet_sm m_X9_movesa ev_X9_moves_10
noncomputable def h0_X9_moves_11 : zH 2 := (show zT 2 from (zk_99_zs1_99_k00_X9_moves_0, ((0, 66, bg_4), (0, 11, bg_11))), (4, (0, 0)))
noncomputable def h1_X9_moves_11 : zH 2 := (show zT 2 from (((25, 63, bg_205), (0, 7, 0x100000000010000000000000000040000000003000000000200000000010100000000)), ((0, 66, bg_4), (0, 11, bg_11))), (4, (0, 0)))
theorem ev_X9_moves_11 : f_X9_movesa [zR 1, zI 4, zI 1] h0_X9_moves_11 (zrk (zU) h1_X9_moves_11) = true := by decide +kernel
noncomputable def g_X9_moves_11 {d : Nat} : List zV → zH d → zP d → Bool := zsmy [(0, 0), (1, 33), (1, 3), (1, 4)] [zR 1, zI 4, zI 1] h0_X9_moves_11 (zU) h1_X9_moves_11
theorem mg_X9_moves_11 {d : Nat} : zMet (d := d) X_X9_moves yX9_moves 2 g_X9_moves_11 := zMet_sm m_X9_movesa ev_X9_moves_11
noncomputable def h0_X9_moves_12 : zH 2 := (show zT 2 from (zk_99_zs1_99_k00_X9_moves_0, ((0, 66, bg_4), (0, 11, bg_11))), (4, (0, 0)))
noncomputable def h1_X9_moves_12 : zH 2 := (show zT 2 from (((25, 63, bg_205), (0, 7, 0x100000000010000000000000000010000000004000000000300000000020100000000)), ((0, 66, bg_4), (0, 11, bg_11))), (4, (0, 0)))
theorem ev_X9_moves_12 : f_X9_movesa [zR 1, zI 0, zI 1] h0_X9_moves_12 (zrk (zU) h1_X9_moves_12) = true := by decide +kernel
noncomputable def g_X9_moves_12 {d : Nat} : List zV → zH d → zP d → Bool := zsmy [(0, 0), (1, 33), (1, 3), (1, 4)] [zR 1, zI 0, zI 1] h0_X9_moves_12 (zU) h1_X9_moves_12
theorem mg_X9_moves_12 {d : Nat} : zMet (d := d) X_X9_moves yX9_moves 2 g_X9_moves_12 := zMet_sm m_X9_movesa ev_X9_moves_12
noncomputable def h0_X9_moves_13 : zH 2 := (show zT 2 from (zk_99_zs1_99_k00_X9_moves_0, ((0, 66, bg_4), (0, 11, bg_11))), (4, (0, 0)))
noncomputable def h1_X9_moves_13 : zH 2 := (show zT 2 from (((25, 63, bg_205), (0, 7, 0x100000000010000000000000000020000000001000000000400000000030100000000)), ((0, 66, bg_4), (0, 11, bg_11))), (4, (0, 0)))
theorem ev_X9_moves_13 : f_X9_movesa [zR 1, zI 0, zI 2] h0_X9_moves_13 (zrk (zU) h1_X9_moves_13) = true := by decide +kernel
noncomputable def g_X9_moves_13 {d : Nat} : List zV → zH d → zP d → Bool := zsmy [(0, 0), (1, 33), (1, 3), (1, 4)] [zR 1, zI 0, zI 2] h0_X9_moves_13 (zU) h1_X9_moves_13
theorem mg_X9_moves_13 {d : Nat} : zMet (d := d) X_X9_moves yX9_moves 2 g_X9_moves_13 := zMet_sm m_X9_movesa ev_X9_moves_13
noncomputable def h0_X9_moves_14 : zH 2 := (show zT 2 from (zk_99_zs1_99_k00_X9_moves_0, ((0, 66, bg_4), (0, 11, bg_11))), (4, (0, 0)))
noncomputable def h1_X9_moves_14 : zH 2 := (show zT 2 from (((25, 63, bg_205), (0, 7, 0x100000000010000000000000000040000000003000000000200000000010100000000)), ((0, 66, bg_4), (0, 11, bg_11))), (4, (0, 0)))
theorem ev_X9_moves_14 : f_X9_movesa [zR 1, zI 0, zI 4] h0_X9_moves_14 (zrk (zU) h1_X9_moves_14) = true := by decide +kernel
noncomputable def g_X9_moves_14 {d : Nat} : List zV → zH d → zP d → Bool := zsmy [(0, 0), (1, 33), (1, 3), (1, 4)] [zR 1, zI 0, zI 4] h0_X9_moves_14 (zU) h1_X9_moves_14
theorem mg_X9_moves_14 {d : Nat} : zMet (d := d) X_X9_moves yX9_moves 2 g_X9_moves_14 := zMet_sm m_X9_movesa ev_X9_moves_14
noncomputable def h0_X9_moves_15 : zH 2 := (show zT 2 from (zk_99_zs1_99_k00_X9_moves_0, ((0, 66, bg_4), (0, 11, bg_11))), (4, (0, 0)))
noncomputable def h1_X9_moves_15 : zH 2 := (show zT 2 from (((25, 63, bg_205), (0, 7, 0x100000000010000000000000000030000000004000000000100000000020100000000)), ((0, 66, bg_4), (0, 11, bg_11))), (4, (0, 0)))
theorem ev_X9_moves_15 : f_X9_movesa [zR 1, zI 2, zI 1] h0_X9_moves_15 (zrk (zU) h1_X9_moves_15) = true := by decide +kernel
noncomputable def g_X9_moves_15 {d : Nat} : List zV → zH d → zP d → Bool := zsmy [(0, 0), (1, 33), (1, 3), (1, 4)] [zR 1, zI 2, zI 1] h0_X9_moves_15 (zU) h1_X9_moves_15
theorem mg_X9_moves_15 {d : Nat} : zMet (d := d) X_X9_moves yX9_moves 2 g_X9_moves_15 := zMet_sm m_X9_movesa ev_X9_moves_15
noncomputable def h0_X9_moves_16 : zH 2 := (show zT 2 from (zk_99_zs1_99_k00_X9_moves_0, ((0, 66, bg_4), (0, 11, bg_11))), (4, (0, 0)))
noncomputable def h1_X9_moves_16 : zH 2 := (show zT 2 from (((25, 63, bg_205), (0, 7, 0x100000000010000000000000000040000000003000000000200000000010100000000)), ((0, 66, bg_4), (0, 11, bg_11))), (4, (0, 0)))
theorem ev_X9_moves_16 : f_X9_movesa [zR 1, zI 2, zI 2] h0_X9_moves_16 (zrk (zU) h1_X9_moves_16) = true := by decide +kernel
noncomputable def g_X9_moves_16 {d : Nat} : List zV → zH d → zP d → Bool := zsmy [(0, 0), (1, 33), (1, 3), (1, 4)] [zR 1, zI 2, zI 2] h0_X9_moves_16 (zU) h1_X9_moves_16
theorem mg_X9_moves_16 {d : Nat} : zMet (d := d) X_X9_moves yX9_moves 2 g_X9_moves_16 := zMet_sm m_X9_movesa ev_X9_moves_16
noncomputable def h0_X9_moves_17 : zH 2 := (show zT 2 from (zk_99_zs1_99_k00_X9_moves_0, ((0, 66, bg_4), (0, 11, bg_11))), (4, (0, 0)))
noncomputable def h1_X9_moves_17 : zH 2 := (show zT 2 from (((25, 63, bg_205), (0, 7, 0x100000000010000000000000000040000000003000000000100000000020100000000)), ((0, 66, bg_4), (0, 11, bg_11))), (4, (0, 0)))
theorem ev_X9_moves_17 : f_X9_movesa [zR 1, zI 3, zI 1] h0_X9_moves_17 (zrk (zU) h1_X9_moves_17) = true := by decide +kernel
noncomputable def g_X9_moves_17 {d : Nat} : List zV → zH d → zP d → Bool := zsmy [(0, 0), (1, 33), (1, 3), (1, 4)] [zR 1, zI 3, zI 1] h0_X9_moves_17 (zU) h1_X9_moves_17
theorem mg_X9_moves_17 {d : Nat} : zMet (d := d) X_X9_moves yX9_moves 2 g_X9_moves_17 := zMet_sm m_X9_movesa ev_X9_moves_17
noncomputable def h0_X9_moves_18 : zH 2 := (show zT 2 from (zk_99_zs1_99_k00_X9_moves_0, ((0, 66, bg_4), (0, 11, bg_11))), (4, (0, 0)))
noncomputable def h1_X9_moves_18 : zH 2 := (show zT 2 from (((25, 63, bg_205), (0, 7, 0x100000000010000000000000000040000000003000000000200000000010100000000)), ((0, 66, bg_4), (0, 11, bg_11))), (4, (0, 0)))
theorem ev_X9_moves_18 : f_X9_movesa [zR 1, zI 3, zI 2] h0_X9_moves_18 (zrk (zU) h1_X9_moves_18) = true := by decide +kernel
noncomputable def g_X9_moves_18 {d : Nat} : List zV → zH d → zP d → Bool := zsmy [(0, 0), (1, 33), (1, 3), (1, 4)] [zR 1, zI 3, zI 2] h0_X9_moves_18 (zU) h1_X9_moves_18
theorem mg_X9_moves_18 {d : Nat} : zMet (d := d) X_X9_moves yX9_moves 2 g_X9_moves_18 := zMet_sm m_X9_movesa ev_X9_moves_18
noncomputable def h0_X9_moves_19 : zH 2 := (show zT 2 from (zk_99_zs1_99_k00_X9_moves_0, ((0, 66, bg_5), (0, 11, bg_12))), (4, (0, 0)))
noncomputable def h1_X9_moves_19 : zH 2 := (show zT 2 from (((25, 63, bg_205), (0, 7, 0x100000000000000000100000000050000000004000000000300000000020100000000)), ((0, 66, bg_5), (0, 11, bg_12))), (4, (0, 0)))
theorem ev_X9_moves_19 : f_X9_movesa [zR 1, zI 0, zI 1] h0_X9_moves_19 (zrk (zU) h1_X9_moves_19) = true := by decide +kernel
noncomputable def g_X9_moves_19 {d : Nat} : List zV → zH d → zP d → Bool := zsmy [(0, 0), (1, 33), (1, 3), (1, 4)] [zR 1, zI 0, zI 1] h0_X9_moves_19 (zU) h1_X9_moves_19
theorem mg_X9_moves_19 {d : Nat} : zMet (d := d) X_X9_moves yX9_moves 2 g_X9_moves_19 := zMet_sm m_X9_movesa ev_X9_moves_19
noncomputable def h0_X9_moves_20 : zH 2 := (show zT 2 from (zk_99_zs1_99_k00_X9_moves_0, ((0, 66, bg_5), (0, 11, bg_12))), (4, (0, 0)))
noncomputable def h1_X9_moves_20 : zH 2 := (show zT 2 from (((25, 63, bg_205), (0, 7, 0x100000000000000000500000000040000000003000000000200000000010100000000)), ((0, 66, bg_5), (0, 11, bg_12))), (4, (0, 0)))
theorem ev_X9_moves_20 : f_X9_movesa [zR 1, zI 0, zI 5] h0_X9_moves_20 (zrk (zU) h1_X9_moves_20) = true := by decide +kernel
noncomputable def g_X9_moves_20 {d : Nat} : List zV → zH d → zP d → Bool := zsmy [(0, 0), (1, 33), (1, 3), (1, 4)] [zR 1, zI 0, zI 5] h0_X9_moves_20 (zU) h1_X9_moves_20
theorem mg_X9_moves_20 {d : Nat} : zMet (d := d) X_X9_moves yX9_moves 2 g_X9_moves_20 := zMet_sm m_X9_movesa ev_X9_moves_20
noncomputable def h0_X9_moves_21 : zH 2 := (show zT 2 from (zk_99_zs1_99_k00_X9_moves_0, ((0, 66, bg_5), (0, 11, bg_12))), (4, (0, 0)))
noncomputable def h1_X9_moves_21 : zH 2 := (show zT 2 from (((25, 63, bg_205), (0, 7, 0x100000000000000000500000000040000000001000000000300000000020100000000)), ((0, 66, bg_5), (0, 11, bg_12))), (4, (0, 0)))
theorem ev_X9_moves_21 : f_X9_movesa [zR 1, zI 3, zI 1] h0_X9_moves_21 (zrk (zU) h1_X9_moves_21) = true := by decide +kernel
noncomputable def g_X9_moves_21 {d : Nat} : List zV → zH d → zP d → Bool := zsmy [(0, 0), (1, 33), (1, 3), (1, 4)] [zR 1, zI 3, zI 1] h0_X9_moves_21 (zU) h1_X9_moves_21
theorem mg_X9_moves_21 {d : Nat} : zMet (d := d) X_X9_moves yX9_moves 2 g_X9_moves_21 := zMet_sm m_X9_movesa ev_X9_moves_21
noncomputable def h0_X9_moves_22 : zH 2 := (show zT 2 from (zk_99_zs1_99_k00_X9_moves_0, ((0, 66, bg_5), (0, 11, bg_12))), (4, (0, 0)))
noncomputable def h1_X9_moves_22 : zH 2 := (show zT 2 from (((25, 63, bg_205), (0, 7, 0x100000000000000000500000000040000000003000000000200000000010100000000)), ((0, 66, bg_5), (0, 11, bg_12))), (4, (0, 0)))
theorem ev_X9_moves_22 : f_X9_movesa [zR 1, zI 3, zI 3] h0_X9_moves_22 (zrk (zU) h1_X9_moves_22) = true := by decide +kernel
noncomputable def g_X9_moves_22 {d : Nat} : List zV → zH d → zP d → Bool := zsmy [(0, 0), (1, 33), (1, 3), (1, 4)] [zR 1, zI 3, zI 3] h0_X9_moves_22 (zU) h1_X9_moves_22
theorem mg_X9_moves_22 {d : Nat} : zMet (d := d) X_X9_moves yX9_moves 2 g_X9_moves_22 := zMet_sm m_X9_movesa ev_X9_moves_22
noncomputable def h0_X9_moves_23 : zH 2 := (show zT 2 from (zk_99_zs1_99_k00_X9_moves_0, ((0, 66, bg_5), (0, 11, bg_12))), (4, (0, 0)))
noncomputable def h1_X9_moves_23 : zH 2 := (show zT 2 from (((25, 63, bg_205), (0, 7, 0x100000000000000000500000000040000000003000000000200000000010100000000)), ((0, 66, bg_5), (0, 11, bg_12))), (4, (0, 0)))
theorem ev_X9_moves_23 : f_X9_movesa [zR 1, zI 6, zI 1] h0_X9_moves_23 (zrk (zU) h1_X9_moves_23) = true := by decide +kernel
noncomputable def g_X9_moves_23 {d : Nat} : List zV → zH d → zP d → Bool := zsmy [(0, 0), (1, 33), (1, 3), (1, 4)] [zR 1, zI 6, zI 1] h0_X9_moves_23 (zU) h1_X9_moves_23
theorem mg_X9_moves_23 {d : Nat} : zMet (d := d) X_X9_moves yX9_moves 2 g_X9_moves_23 := zMet_sm m_X9_movesa ev_X9_moves_23
noncomputable def h0_X9_moves_24 : zH 2 := (show zT 2 from (zk_99_zs1_99_k00_X9_moves_0, ((0, 66, bg_5), (0, 11, bg_12))), (4, (0, 0)))
noncomputable def h1_X9_moves_24 : zH 2 := (show zT 2 from (((25, 63, bg_205), (0, 7, 0x100000000000000000500000000010000000004000000000300000000020100000000)), ((0, 66, bg_5), (0, 11, bg_12))), (4, (0, 0)))
theorem ev_X9_moves_24 : f_X9_movesa [zR 1, zI 1, zI 1] h0_X9_moves_24 (zrk (zU) h1_X9_moves_24) = true := by decide +kernel
noncomputable def g_X9_moves_24 {d : Nat} : List zV → zH d → zP d → Bool := zsmy [(0, 0), (1, 33), (1, 3), (1, 4)] [zR 1, zI 1, zI 1] h0_X9_moves_24 (zU) h1_X9_moves_24
theorem mg_X9_moves_24 {d : Nat} : zMet (d := d) X_X9_moves yX9_moves 2 g_X9_moves_24 := zMet_sm m_X9_movesa ev_X9_moves_24
noncomputable def h0_X9_moves_25 : zH 2 := (show zT 2 from (zk_99_zs1_99_k00_X9_moves_0, ((0, 66, bg_5), (0, 11, bg_12))), (4, (0, 0)))
noncomputable def h1_X9_moves_25 : zH 2 := (show zT 2 from (((25, 63, bg_205), (0, 7, 0x100000000000000000500000000020000000001000000000400000000030100000000)), ((0, 66, bg_5), (0, 11, bg_12))), (4, (0, 0)))
theorem ev_X9_moves_25 : f_X9_movesa [zR 1, zI 1, zI 2] h0_X9_moves_25 (zrk (zU) h1_X9_moves_25) = true := by decide +kernel
noncomputable def g_X9_moves_25 {d : Nat} : List zV → zH d → zP d → Bool := zsmy [(0, 0), (1, 33), (1, 3), (1, 4)] [zR 1, zI 1, zI 2] h0_X9_moves_25 (zU) h1_X9_moves_25
theorem mg_X9_moves_25 {d : Nat} : zMet (d := d) X_X9_moves yX9_moves 2 g_X9_moves_25 := zMet_sm m_X9_movesa ev_X9_moves_25
noncomputable def h0_X9_moves_26 : zH 2 := (show zT 2 from (zk_99_zs1_99_k00_X9_moves_0, ((0, 66, bg_5), (0, 11, bg_12))), (4, (0, 0)))
noncomputable def h1_X9_moves_26 : zH 2 := (show zT 2 from (((25, 63, bg_205), (0, 7, 0x100000000000000000500000000040000000003000000000200000000010100000000)), ((0, 66, bg_5), (0, 11, bg_12))), (4, (0, 0)))
theorem ev_X9_moves_26 : f_X9_movesa [zR 1, zI 1, zI 4] h0_X9_moves_26 (zrk (zU) h1_X9_moves_26) = true := by decide +kernel
noncomputable def g_X9_moves_26 {d : Nat} : List zV → zH d → zP d → Bool := zsmy [(0, 0), (1, 33), (1, 3), (1, 4)] [zR 1, zI 1, zI 4] h0_X9_moves_26 (zU) h1_X9_moves_26
theorem mg_X9_moves_26 {d : Nat} : zMet (d := d) X_X9_moves yX9_moves 2 g_X9_moves_26 := zMet_sm m_X9_movesa ev_X9_moves_26
noncomputable def h0_X9_moves_27 : zH 2 := (show zT 2 from (zk_99_zs1_99_k00_X9_moves_0, ((0, 66, bg_5), (0, 11, bg_12))), (4, (0, 0)))
noncomputable def h1_X9_moves_27 : zH 2 := (show zT 2 from (((25, 63, bg_205), (0, 7, 0x100000000000000000500000000030000000004000000000100000000020100000000)), ((0, 66, bg_5), (0, 11, bg_12))), (4, (0, 0)))
theorem ev_X9_moves_27 : f_X9_movesa [zR 1, zI 4, zI 1] h0_X9_moves_27 (zrk (zU) h1_X9_moves_27) = true := by decide +kernel
noncomputable def g_X9_moves_27 {d : Nat} : List zV → zH d → zP d → Bool := zsmy [(0, 0), (1, 33), (1, 3), (1, 4)] [zR 1, zI 4, zI 1] h0_X9_moves_27 (zU) h1_X9_moves_27
theorem mg_X9_moves_27 {d : Nat} : zMet (d := d) X_X9_moves yX9_moves 2 g_X9_moves_27 := zMet_sm m_X9_movesa ev_X9_moves_27
noncomputable def h0_X9_moves_28 : zH 2 := (show zT 2 from (zk_99_zs1_99_k00_X9_moves_0, ((0, 66, bg_5), (0, 11, bg_12))), (4, (0, 0)))
noncomputable def h1_X9_moves_28 : zH 2 := (show zT 2 from (((25, 63, bg_205), (0, 7, 0x100000000000000000500000000040000000003000000000200000000010100000000)), ((0, 66, bg_5), (0, 11, bg_12))), (4, (0, 0)))
theorem ev_X9_moves_28 : f_X9_movesa [zR 1, zI 4, zI 2] h0_X9_moves_28 (zrk (zU) h1_X9_moves_28) = true := by decide +kernel
noncomputable def g_X9_moves_28 {d : Nat} : List zV → zH d → zP d → Bool := zsmy [(0, 0), (1, 33), (1, 3), (1, 4)] [zR 1, zI 4, zI 2] h0_X9_moves_28 (zU) h1_X9_moves_28
theorem mg_X9_moves_28 {d : Nat} : zMet (d := d) X_X9_moves yX9_moves 2 g_X9_moves_28 := zMet_sm m_X9_movesa ev_X9_moves_28
noncomputable def h0_X9_moves_29 : zH 2 := (show zT 2 from (zk_99_zs1_99_k00_X9_moves_0, ((0, 66, bg_5), (0, 11, bg_12))), (4, (0, 0)))
noncomputable def h1_X9_moves_29 : zH 2 := (show zT 2 from (((25, 63, bg_205), (0, 7, 0x100000000000000000500000000040000000003000000000100000000020100000000)), ((0, 66, bg_5), (0, 11, bg_12))), (4, (0, 0)))
theorem ev_X9_moves_29 : f_X9_movesa [zR 1, zI 5, zI 1] h0_X9_moves_29 (zrk (zU) h1_X9_moves_29) = true := by decide +kernel
noncomputable def g_X9_moves_29 {d : Nat} : List zV → zH d → zP d → Bool := zsmy [(0, 0), (1, 33), (1, 3), (1, 4)] [zR 1, zI 5, zI 1] h0_X9_moves_29 (zU) h1_X9_moves_29
theorem mg_X9_moves_29 {d : Nat} : zMet (d := d) X_X9_moves yX9_moves 2 g_X9_moves_29 := zMet_sm m_X9_movesa ev_X9_moves_29
noncomputable def h0_X9_moves_30 : zH 2 := (show zT 2 from (zk_99_zs1_99_k00_X9_moves_0, ((0, 66, bg_5), (0, 11, bg_12))), (4, (0, 0)))
noncomputable def h1_X9_moves_30 : zH 2 := (show zT 2 from (((25, 63, bg_205), (0, 7, 0x100000000000000000500000000040000000003000000000200000000010100000000)), ((0, 66, bg_5), (0, 11, bg_12))), (4, (0, 0)))
theorem ev_X9_moves_30 : f_X9_movesa [zR 1, zI 5, zI 2] h0_X9_moves_30 (zrk (zU) h1_X9_moves_30) = true := by decide +kernel
noncomputable def g_X9_moves_30 {d : Nat} : List zV → zH d → zP d → Bool := zsmy [(0, 0), (1, 33), (1, 3), (1, 4)] [zR 1, zI 5, zI 2] h0_X9_moves_30 (zU) h1_X9_moves_30
theorem mg_X9_moves_30 {d : Nat} : zMet (d := d) X_X9_moves yX9_moves 2 g_X9_moves_30 := zMet_sm m_X9_movesa ev_X9_moves_30
noncomputable def h0_X9_moves_31 : zH 2 := (show zT 2 from (zk_99_zs1_99_k00_X9_moves_0, ((0, 66, bg_5), (0, 11, bg_12))), (4, (0, 0)))
noncomputable def h1_X9_moves_31 : zH 2 := (show zT 2 from (((25, 63, bg_205), (0, 7, 0x100000000000000000400000000050000000001000000000300000000020100000000)), ((0, 66, bg_5), (0, 11, bg_12))), (4, (0, 0)))
theorem ev_X9_moves_31 : f_X9_movesa [zR 1, zI 2, zI 1] h0_X9_moves_31 (zrk (zU) h1_X9_moves_31) = true := by decide +kernel
noncomputable def g_X9_moves_31 {d : Nat} : List zV → zH d → zP d → Bool := zsmy [(0, 0), (1, 33), (1, 3), (1, 4)] [zR 1, zI 2, zI 1] h0_X9_moves_31 (zU) h1_X9_moves_31
theorem mg_X9_moves_31 {d : Nat} : zMet (d := d) X_X9_moves yX9_moves 2 g_X9_moves_31 := zMet_sm m_X9_movesa ev_X9_moves_31
noncomputable def h0_X9_moves_32 : zH 2 := (show zT 2 from (zk_99_zs1_99_k00_X9_moves_0, ((0, 66, bg_5), (0, 11, bg_12))), (4, (0, 0)))
noncomputable def h1_X9_moves_32 : zH 2 := (show zT 2 from (((25, 63, bg_205), (0, 7, 0x100000000000000000500000000040000000002000000000100000000030100000000)), ((0, 66, bg_5), (0, 11, bg_12))), (4, (0, 0)))
theorem ev_X9_moves_32 : f_X9_movesa [zR 1, zI 2, zI 2] h0_X9_moves_32 (zrk (zU) h1_X9_moves_32) = true := by decide +kernel
noncomputable def g_X9_moves_32 {d : Nat} : List zV → zH d → zP d → Bool := zsmy [(0, 0), (1, 33), (1, 3), (1, 4)] [zR 1, zI 2, zI 2] h0_X9_moves_32 (zU) h1_X9_moves_32
theorem mg_X9_moves_32 {d : Nat} : zMet (d := d) X_X9_moves yX9_moves 2 g_X9_moves_32 := zMet_sm m_X9_movesa ev_X9_moves_32
noncomputable def h0_X9_moves_33 : zH 2 := (show zT 2 from (zk_99_zs1_99_k00_X9_moves_0, ((0, 66, bg_5), (0, 11, bg_12))), (4, (0, 0)))
noncomputable def h1_X9_moves_33 : zH 2 := (show zT 2 from (((25, 63, bg_205), (0, 7, 0x100000000000000000400000000050000000003000000000200000000010100000000)), ((0, 66, bg_5), (0, 11, bg_12))), (4, (0, 0)))
theorem ev_X9_moves_33 : f_X9_movesa [zR 1, zI 2, zI 3] h0_X9_moves_33 (zrk (zU) h1_X9_moves_33) = true := by decide +kernel
noncomputable def g_X9_moves_33 {d : Nat} : List zV → zH d → zP d → Bool := zsmy [(0, 0), (1, 33), (1, 3), (1, 4)] [zR 1, zI 2, zI 3] h0_X9_moves_33 (zU) h1_X9_moves_33
theorem mg_X9_moves_33 {d : Nat} : zMet (d := d) X_X9_moves yX9_moves 2 g_X9_moves_33 := zMet_sm m_X9_movesa ev_X9_moves_33
noncomputable def h0_X9_moves_34 : zH 2 := (show zT 2 from (zk_99_zs1_99_k00_X9_moves_0, ((0, 66, bg_5), (0, 11, bg_12))), (4, (0, 0)))
noncomputable def h1_X9_moves_34 : zH 2 := (show zT 2 from (((25, 63, bg_205), (0, 7, 0x100000000000000000500000000040000000003000000000200000000010100000000)), ((0, 66, bg_5), (0, 11, bg_12))), (4, (0, 0)))
theorem ev_X9_moves_34 : f_X9_movesa [zR 1, zI 2, zI 6] h0_X9_moves_34 (zrk (zU) h1_X9_moves_34) = true := by decide +kernel
noncomputable def g_X9_moves_34 {d : Nat} : List zV → zH d → zP d → Bool := zsmy [(0, 0), (1, 33), (1, 3), (1, 4)] [zR 1, zI 2, zI 6] h0_X9_moves_34 (zU) h1_X9_moves_34
theorem mg_X9_moves_34 {d : Nat} : zMet (d := d) X_X9_moves yX9_moves 2 g_X9_moves_34 := zMet_sm m_X9_movesa ev_X9_moves_34
noncomputable def h0_X9_moves_35 : zH 2 := (show zT 2 from (zk_99_zs1_99_k00_X9_moves_0, ((0, 66, bg_6), (0, 11, bg_13))), (4, (0, 0)))
noncomputable def h1_X9_moves_35 : zH 2 := (show zT 2 from (((25, 63, bg_205), (0, 7, 0x6000000000100000000050000000004000000000300000000020100000000)), ((0, 66, bg_6), (0, 11, bg_13))), (4, (0, 0)))
theorem ev_X9_moves_35 : f_X9_movesa [zR 1, zI 1, zI 1] h0_X9_moves_35 (zrk (zU) h1_X9_moves_35) = true := by decide +kernel
noncomputable def g_X9_moves_35 {d : Nat} : List zV → zH d → zP d → Bool := zsmy [(0, 0), (1, 33), (1, 3), (1, 4)] [zR 1, zI 1, zI 1] h0_X9_moves_35 (zU) h1_X9_moves_35
theorem mg_X9_moves_35 {d : Nat} : zMet (d := d) X_X9_moves yX9_moves 2 g_X9_moves_35 := zMet_sm m_X9_movesa ev_X9_moves_35
noncomputable def h0_X9_moves_36 : zH 2 := (show zT 2 from (zk_99_zs1_99_k00_X9_moves_0, ((0, 66, bg_6), (0, 11, bg_13))), (4, (0, 0)))
noncomputable def h1_X9_moves_36 : zH 2 := (show zT 2 from (((25, 63, bg_205), (0, 7, 0x6000000000500000000040000000003000000000200000000010100000000)), ((0, 66, bg_6), (0, 11, bg_13))), (4, (0, 0)))
theorem ev_X9_moves_36 : f_X9_movesa [zR 1, zI 1, zI 5] h0_X9_moves_36 (zrk (zU) h1_X9_moves_36) = true := by decide +kernel
noncomputable def g_X9_moves_36 {d : Nat} : List zV → zH d → zP d → Bool := zsmy [(0, 0), (1, 33), (1, 3), (1, 4)] [zR 1, zI 1, zI 5] h0_X9_moves_36 (zU) h1_X9_moves_36
theorem mg_X9_moves_36 {d : Nat} : zMet (d := d) X_X9_moves yX9_moves 2 g_X9_moves_36 := zMet_sm m_X9_movesa ev_X9_moves_36
noncomputable def h0_X9_moves_37 : zH 2 := (show zT 2 from (zk_99_zs1_99_k00_X9_moves_0, ((0, 66, bg_6), (0, 11, bg_13))), (4, (0, 0)))
noncomputable def h1_X9_moves_37 : zH 2 := (show zT 2 from (((25, 63, bg_205), (0, 7, 0x4000000000600000000050000000001000000000300000000020100000000)), ((0, 66, bg_6), (0, 11, bg_13))), (4, (0, 0)))
theorem ev_X9_moves_37 : f_X9_movesa [zR 1, zI 4, zI 1] h0_X9_moves_37 (zrk (zU) h1_X9_moves_37) = true := by decide +kernel
noncomputable def g_X9_moves_37 {d : Nat} : List zV → zH d → zP d → Bool := zsmy [(0, 0), (1, 33), (1, 3), (1, 4)] [zR 1, zI 4, zI 1] h0_X9_moves_37 (zU) h1_X9_moves_37
theorem mg_X9_moves_37 {d : Nat} : zMet (d := d) X_X9_moves yX9_moves 2 g_X9_moves_37 := zMet_sm m_X9_movesa ev_X9_moves_37
noncomputable def h0_X9_moves_38 : zH 2 := (show zT 2 from (zk_99_zs1_99_k00_X9_moves_0, ((0, 66, bg_6), (0, 11, bg_13))), (4, (0, 0)))
noncomputable def h1_X9_moves_38 : zH 2 := (show zT 2 from (((25, 63, bg_205), (0, 7, 0x6000000000500000000040000000003000000000200000000010100000000)), ((0, 66, bg_6), (0, 11, bg_13))), (4, (0, 0)))
theorem ev_X9_moves_38 : f_X9_movesa [zR 1, zI 4, zI 3] h0_X9_moves_38 (zrk (zU) h1_X9_moves_38) = true := by decide +kernel
noncomputable def g_X9_moves_38 {d : Nat} : List zV → zH d → zP d → Bool := zsmy [(0, 0), (1, 33), (1, 3), (1, 4)] [zR 1, zI 4, zI 3] h0_X9_moves_38 (zU) h1_X9_moves_38
theorem mg_X9_moves_38 {d : Nat} : zMet (d := d) X_X9_moves yX9_moves 2 g_X9_moves_38 := zMet_sm m_X9_movesa ev_X9_moves_38
noncomputable def h0_X9_moves_39 : zH 2 := (show zT 2 from (zk_99_zs1_99_k00_X9_moves_0, ((0, 66, bg_6), (0, 11, bg_13))), (4, (0, 0)))
noncomputable def h1_X9_moves_39 : zH 2 := (show zT 2 from (((25, 63, bg_205), (0, 7, 0x6000000000500000000040000000001000000000300000000020100000000)), ((0, 66, bg_6), (0, 11, bg_13))), (4, (0, 0)))
theorem ev_X9_moves_39 : f_X9_movesa [zR 1, zI 6, zI 1] h0_X9_moves_39 (zrk (zU) h1_X9_moves_39) = true := by decide +kernel
noncomputable def g_X9_moves_39 {d : Nat} : List zV → zH d → zP d → Bool := zsmy [(0, 0), (1, 33), (1, 3), (1, 4)] [zR 1, zI 6, zI 1] h0_X9_moves_39 (zU) h1_X9_moves_39
theorem mg_X9_moves_39 {d : Nat} : zMet (d := d) X_X9_moves yX9_moves 2 g_X9_moves_39 := zMet_sm m_X9_movesa ev_X9_moves_39
noncomputable def h0_X9_moves_40 : zH 2 := (show zT 2 from (zk_99_zs1_99_k00_X9_moves_0, ((0, 66, bg_6), (0, 11, bg_13))), (4, (0, 0)))
noncomputable def h1_X9_moves_40 : zH 2 := (show zT 2 from (((25, 63, bg_205), (0, 7, 0x6000000000500000000040000000003000000000200000000010100000000)), ((0, 66, bg_6), (0, 11, bg_13))), (4, (0, 0)))
theorem ev_X9_moves_40 : f_X9_movesa [zR 1, zI 6, zI 3] h0_X9_moves_40 (zrk (zU) h1_X9_moves_40) = true := by decide +kernel
noncomputable def g_X9_moves_40 {d : Nat} : List zV → zH d → zP d → Bool := zsmy [(0, 0), (1, 33), (1, 3), (1, 4)] [zR 1, zI 6, zI 3] h0_X9_moves_40 (zU) h1_X9_moves_40
theorem mg_X9_moves_40 {d : Nat} : zMet (d := d) X_X9_moves yX9_moves 2 g_X9_moves_40 := zMet_sm m_X9_movesa ev_X9_moves_40
noncomputable def h0_X9_moves_41 : zH 2 := (show zT 2 from (zk_99_zs1_99_k00_X9_moves_0, ((0, 66, bg_6), (0, 11, bg_13))), (4, (0, 0)))
noncomputable def h1_X9_moves_41 : zH 2 := (show zT 2 from (((25, 63, bg_205), (0, 7, 0x6000000000500000000040000000003000000000200000000010100000000)), ((0, 66, bg_6), (0, 11, bg_13))), (4, (0, 0)))
theorem ev_X9_moves_41 : f_X9_movesa [zR 1, zI 10, zI 1] h0_X9_moves_41 (zrk (zU) h1_X9_moves_41) = true := by decide +kernel
noncomputable def g_X9_moves_41 {d : Nat} : List zV → zH d → zP d → Bool := zsmy [(0, 0), (1, 33), (1, 3), (1, 4)] [zR 1, zI 10, zI 1] h0_X9_moves_41 (zU) h1_X9_moves_41
theorem mg_X9_moves_41 {d : Nat} : zMet (d := d) X_X9_moves yX9_moves 2 g_X9_moves_41 := zMet_sm m_X9_movesa ev_X9_moves_41
noncomputable def h0_X9_moves_42 : zH 2 := (show zT 2 from (zk_99_zs1_99_k00_X9_moves_0, ((0, 66, bg_6), (0, 11, bg_13))), (4, (0, 0)))
noncomputable def h1_X9_moves_42 : zH 2 := (show zT 2 from (((25, 63, bg_205), (0, 7, 0x5000000000600000000010000000004000000000300000000020100000000)), ((0, 66, bg_6), (0, 11, bg_13))), (4, (0, 0)))
theorem ev_X9_moves_42 : f_X9_movesa [zR 1, zI 2, zI 1] h0_X9_moves_42 (zrk (zU) h1_X9_moves_42) = true := by decide +kernel
noncomputable def g_X9_moves_42 {d : Nat} : List zV → zH d → zP d → Bool := zsmy [(0, 0), (1, 33), (1, 3), (1, 4)] [zR 1, zI 2, zI 1] h0_X9_moves_42 (zU) h1_X9_moves_42
theorem mg_X9_moves_42 {d : Nat} : zMet (d := d) X_X9_moves yX9_moves 2 g_X9_moves_42 := zMet_sm m_X9_movesa ev_X9_moves_42
noncomputable def h0_X9_moves_43 : zH 2 := (show zT 2 from (zk_99_zs1_99_k00_X9_moves_0, ((0, 66, bg_6), (0, 11, bg_13))), (4, (0, 0)))
noncomputable def h1_X9_moves_43 : zH 2 := (show zT 2 from (((25, 63, bg_205), (0, 7, 0x6000000000500000000020000000001000000000400000000030100000000)), ((0, 66, bg_6), (0, 11, bg_13))), (4, (0, 0)))
theorem ev_X9_moves_43 : f_X9_movesa [zR 1, zI 2, zI 2] h0_X9_moves_43 (zrk (zU) h1_X9_moves_43) = true := by decide +kernel
noncomputable def g_X9_moves_43 {d : Nat} : List zV → zH d → zP d → Bool := zsmy [(0, 0), (1, 33), (1, 3), (1, 4)] [zR 1, zI 2, zI 2] h0_X9_moves_43 (zU) h1_X9_moves_43
theorem mg_X9_moves_43 {d : Nat} : zMet (d := d) X_X9_moves yX9_moves 2 g_X9_moves_43 := zMet_sm m_X9_movesa ev_X9_moves_43
noncomputable def h0_X9_moves_44 : zH 2 := (show zT 2 from (zk_99_zs1_99_k00_X9_moves_0, ((0, 66, bg_6), (0, 11, bg_13))), (4, (0, 0)))
noncomputable def h1_X9_moves_44 : zH 2 := (show zT 2 from (((25, 63, bg_205), (0, 7, 0x6000000000500000000040000000003000000000200000000010100000000)), ((0, 66, bg_6), (0, 11, bg_13))), (4, (0, 0)))
theorem ev_X9_moves_44 : f_X9_movesa [zR 1, zI 2, zI 4] h0_X9_moves_44 (zrk (zU) h1_X9_moves_44) = true := by decide +kernel
noncomputable def g_X9_moves_44 {d : Nat} : List zV → zH d → zP d → Bool := zsmy [(0, 0), (1, 33), (1, 3), (1, 4)] [zR 1, zI 2, zI 4] h0_X9_moves_44 (zU) h1_X9_moves_44
theorem mg_X9_moves_44 {d : Nat} : zMet (d := d) X_X9_moves yX9_moves 2 g_X9_moves_44 := zMet_sm m_X9_movesa ev_X9_moves_44
noncomputable def h0_X9_moves_45 : zH 2 := (show zT 2 from (zk_99_zs1_99_k00_X9_moves_0, ((0, 66, bg_6), (0, 11, bg_13))), (4, (0, 0)))
noncomputable def h1_X9_moves_45 : zH 2 := (show zT 2 from (((25, 63, bg_205), (0, 7, 0x6000000000500000000010000000004000000000300000000020100000000)), ((0, 66, bg_6), (0, 11, bg_13))), (4, (0, 0)))
theorem ev_X9_moves_45 : f_X9_movesa [zR 1, zI 3, zI 1] h0_X9_moves_45 (zrk (zU) h1_X9_moves_45) = true := by decide +kernel
noncomputable def g_X9_moves_45 {d : Nat} : List zV → zH d → zP d → Bool := zsmy [(0, 0), (1, 33), (1, 3), (1, 4)] [zR 1, zI 3, zI 1] h0_X9_moves_45 (zU) h1_X9_moves_45
theorem mg_X9_moves_45 {d : Nat} : zMet (d := d) X_X9_moves yX9_moves 2 g_X9_moves_45 := zMet_sm m_X9_movesa ev_X9_moves_45
noncomputable def h0_X9_moves_46 : zH 2 := (show zT 2 from (zk_99_zs1_99_k00_X9_moves_0, ((0, 66, bg_6), (0, 11, bg_13))), (4, (0, 0)))
noncomputable def h1_X9_moves_46 : zH 2 := (show zT 2 from (((25, 63, bg_205), (0, 7, 0x6000000000500000000020000000001000000000400000000030100000000)), ((0, 66, bg_6), (0, 11, bg_13))), (4, (0, 0)))
theorem ev_X9_moves_46 : f_X9_movesa [zR 1, zI 3, zI 2] h0_X9_moves_46 (zrk (zU) h1_X9_moves_46) = true := by decide +kernel
noncomputable def g_X9_moves_46 {d : Nat} : List zV → zH d → zP d → Bool := zsmy [(0, 0), (1, 33), (1, 3), (1, 4)] [zR 1, zI 3, zI 2] h0_X9_moves_46 (zU) h1_X9_moves_46
theorem mg_X9_moves_46 {d : Nat} : zMet (d := d) X_X9_moves yX9_moves 2 g_X9_moves_46 := zMet_sm m_X9_movesa ev_X9_moves_46
noncomputable def h0_X9_moves_47 : zH 2 := (show zT 2 from (zk_99_zs1_99_k00_X9_moves_0, ((0, 66, bg_6), (0, 11, bg_13))), (4, (0, 0)))
noncomputable def h1_X9_moves_47 : zH 2 := (show zT 2 from (((25, 63, bg_205), (0, 7, 0x6000000000500000000040000000003000000000200000000010100000000)), ((0, 66, bg_6), (0, 11, bg_13))), (4, (0, 0)))
theorem ev_X9_moves_47 : f_X9_movesa [zR 1, zI 3, zI 4] h0_X9_moves_47 (zrk (zU) h1_X9_moves_47) = true := by decide +kernel
noncomputable def g_X9_moves_47 {d : Nat} : List zV → zH d → zP d → Bool := zsmy [(0, 0), (1, 33), (1, 3), (1, 4)] [zR 1, zI 3, zI 4] h0_X9_moves_47 (zU) h1_X9_moves_47
theorem mg_X9_moves_47 {d : Nat} : zMet (d := d) X_X9_moves yX9_moves 2 g_X9_moves_47 := zMet_sm m_X9_movesa ev_X9_moves_47
noncomputable def h0_X9_moves_48 : zH 2 := (show zT 2 from (zk_99_zs1_99_k00_X9_moves_0, ((0, 66, bg_6), (0, 11, bg_13))), (4, (0, 0)))
noncomputable def h1_X9_moves_48 : zH 2 := (show zT 2 from (((25, 63, bg_205), (0, 7, 0x5000000000600000000030000000004000000000100000000020100000000)), ((0, 66, bg_6), (0, 11, bg_13))), (4, (0, 0)))
theorem ev_X9_moves_48 : f_X9_movesa [zR 1, zI 7, zI 1] h0_X9_moves_48 (zrk (zU) h1_X9_moves_48) = true := by decide +kernel
noncomputable def g_X9_moves_48 {d : Nat} : List zV → zH d → zP d → Bool := zsmy [(0, 0), (1, 33), (1, 3), (1, 4)] [zR 1, zI 7, zI 1] h0_X9_moves_48 (zU) h1_X9_moves_48
theorem mg_X9_moves_48 {d : Nat} : zMet (d := d) X_X9_moves yX9_moves 2 g_X9_moves_48 := zMet_sm m_X9_movesa ev_X9_moves_48
noncomputable def h0_X9_moves_49 : zH 2 := (show zT 2 from (zk_99_zs1_99_k00_X9_moves_0, ((0, 66, bg_6), (0, 11, bg_13))), (4, (0, 0)))
noncomputable def h1_X9_moves_49 : zH 2 := (show zT 2 from (((25, 63, bg_205), (0, 7, 0x6000000000500000000040000000003000000000200000000010100000000)), ((0, 66, bg_6), (0, 11, bg_13))), (4, (0, 0)))
theorem ev_X9_moves_49 : f_X9_movesa [zR 1, zI 7, zI 2] h0_X9_moves_49 (zrk (zU) h1_X9_moves_49) = true := by decide +kernel
noncomputable def g_X9_moves_49 {d : Nat} : List zV → zH d → zP d → Bool := zsmy [(0, 0), (1, 33), (1, 3), (1, 4)] [zR 1, zI 7, zI 2] h0_X9_moves_49 (zU) h1_X9_moves_49
theorem mg_X9_moves_49 {d : Nat} : zMet (d := d) X_X9_moves yX9_moves 2 g_X9_moves_49 := zMet_sm m_X9_movesa ev_X9_moves_49
noncomputable def h0_X9_moves_50 : zH 2 := (show zT 2 from (zk_99_zs1_99_k00_X9_moves_0, ((0, 66, bg_6), (0, 11, bg_13))), (4, (0, 0)))
noncomputable def h1_X9_moves_50 : zH 2 := (show zT 2 from (((25, 63, bg_205), (0, 7, 0x6000000000500000000030000000004000000000100000000020100000000)), ((0, 66, bg_6), (0, 11, bg_13))), (4, (0, 0)))
theorem ev_X9_moves_50 : f_X9_movesa [zR 1, zI 8, zI 1] h0_X9_moves_50 (zrk (zU) h1_X9_moves_50) = true := by decide +kernel
noncomputable def g_X9_moves_50 {d : Nat} : List zV → zH d → zP d → Bool := zsmy [(0, 0), (1, 33), (1, 3), (1, 4)] [zR 1, zI 8, zI 1] h0_X9_moves_50 (zU) h1_X9_moves_50
theorem mg_X9_moves_50 {d : Nat} : zMet (d := d) X_X9_moves yX9_moves 2 g_X9_moves_50 := zMet_sm m_X9_movesa ev_X9_moves_50
noncomputable def h0_X9_moves_51 : zH 2 := (show zT 2 from (zk_99_zs1_99_k00_X9_moves_0, ((0, 66, bg_6), (0, 11, bg_13))), (4, (0, 0)))
noncomputable def h1_X9_moves_51 : zH 2 := (show zT 2 from (((25, 63, bg_205), (0, 7, 0x6000000000500000000040000000003000000000200000000010100000000)), ((0, 66, bg_6), (0, 11, bg_13))), (4, (0, 0)))
theorem ev_X9_moves_51 : f_X9_movesa [zR 1, zI 8, zI 2] h0_X9_moves_51 (zrk (zU) h1_X9_moves_51) = true := by decide +kernel
noncomputable def g_X9_moves_51 {d : Nat} : List zV → zH d → zP d → Bool := zsmy [(0, 0), (1, 33), (1, 3), (1, 4)] [zR 1, zI 8, zI 2] h0_X9_moves_51 (zU) h1_X9_moves_51
theorem mg_X9_moves_51 {d : Nat} : zMet (d := d) X_X9_moves yX9_moves 2 g_X9_moves_51 := zMet_sm m_X9_movesa ev_X9_moves_51
noncomputable def h0_X9_moves_52 : zH 2 := (show zT 2 from (zk_99_zs1_99_k00_X9_moves_0, ((0, 66, bg_6), (0, 11, bg_13))), (4, (0, 0)))
noncomputable def h1_X9_moves_52 : zH 2 := (show zT 2 from (((25, 63, bg_205), (0, 7, 0x6000000000500000000040000000003000000000100000000020100000000)), ((0, 66, bg_6), (0, 11, bg_13))), (4, (0, 0)))
theorem ev_X9_moves_52 : f_X9_movesa [zR 1, zI 9, zI 1] h0_X9_moves_52 (zrk (zU) h1_X9_moves_52) = true := by decide +kernel
noncomputable def g_X9_moves_52 {d : Nat} : List zV → zH d → zP d → Bool := zsmy [(0, 0), (1, 33), (1, 3), (1, 4)] [zR 1, zI 9, zI 1] h0_X9_moves_52 (zU) h1_X9_moves_52
theorem mg_X9_moves_52 {d : Nat} : zMet (d := d) X_X9_moves yX9_moves 2 g_X9_moves_52 := zMet_sm m_X9_movesa ev_X9_moves_52
noncomputable def h0_X9_moves_53 : zH 2 := (show zT 2 from (zk_99_zs1_99_k00_X9_moves_0, ((0, 66, bg_6), (0, 11, bg_13))), (4, (0, 0)))
noncomputable def h1_X9_moves_53 : zH 2 := (show zT 2 from (((25, 63, bg_205), (0, 7, 0x6000000000500000000040000000003000000000200000000010100000000)), ((0, 66, bg_6), (0, 11, bg_13))), (4, (0, 0)))
theorem ev_X9_moves_53 : f_X9_movesa [zR 1, zI 9, zI 2] h0_X9_moves_53 (zrk (zU) h1_X9_moves_53) = true := by decide +kernel
noncomputable def g_X9_moves_53 {d : Nat} : List zV → zH d → zP d → Bool := zsmy [(0, 0), (1, 33), (1, 3), (1, 4)] [zR 1, zI 9, zI 2] h0_X9_moves_53 (zU) h1_X9_moves_53
theorem mg_X9_moves_53 {d : Nat} : zMet (d := d) X_X9_moves yX9_moves 2 g_X9_moves_53 := zMet_sm m_X9_movesa ev_X9_moves_53
noncomputable def h0_X9_moves_54 : zH 2 := (show zT 2 from (zk_99_zs1_99_k00_X9_moves_0, ((0, 66, bg_6), (0, 11, bg_13))), (4, (0, 0)))
noncomputable def h1_X9_moves_54 : zH 2 := (show zT 2 from (((25, 63, bg_205), (0, 7, 0x1000000000600000000050000000004000000000300000000020100000000)), ((0, 66, bg_6), (0, 11, bg_13))), (4, (0, 0)))
theorem ev_X9_moves_54 : f_X9_movesa [zR 1, zI 0, zI 1] h0_X9_moves_54 (zrk (zU) h1_X9_moves_54) = true := by decide +kernel
noncomputable def g_X9_moves_54 {d : Nat} : List zV → zH d → zP d → Bool := zsmy [(0, 0), (1, 33), (1, 3), (1, 4)] [zR 1, zI 0, zI 1] h0_X9_moves_54 (zU) h1_X9_moves_54
theorem mg_X9_moves_54 {d : Nat} : zMet (d := d) X_X9_moves yX9_moves 2 g_X9_moves_54 := zMet_sm m_X9_movesa ev_X9_moves_54
noncomputable def h0_X9_moves_55 : zH 2 := (show zT 2 from (zk_99_zs1_99_k00_X9_moves_0, ((0, 66, bg_6), (0, 11, bg_13))), (4, (0, 0)))
noncomputable def h1_X9_moves_55 : zH 2 := (show zT 2 from (((25, 63, bg_205), (0, 7, 0x2000000000100000000060000000005000000000400000000030100000000)), ((0, 66, bg_6), (0, 11, bg_13))), (4, (0, 0)))
theorem ev_X9_moves_55 : f_X9_movesa [zR 1, zI 0, zI 2] h0_X9_moves_55 (zrk (zU) h1_X9_moves_55) = true := by decide +kernel
noncomputable def g_X9_moves_55 {d : Nat} : List zV → zH d → zP d → Bool := zsmy [(0, 0), (1, 33), (1, 3), (1, 4)] [zR 1, zI 0, zI 2] h0_X9_moves_55 (zU) h1_X9_moves_55
theorem mg_X9_moves_55 {d : Nat} : zMet (d := d) X_X9_moves yX9_moves 2 g_X9_moves_55 := zMet_sm m_X9_movesa ev_X9_moves_55
noncomputable def h0_X9_moves_56 : zH 2 := (show zT 2 from (zk_99_zs1_99_k00_X9_moves_0, ((0, 66, bg_6), (0, 11, bg_13))), (4, (0, 0)))
noncomputable def h1_X9_moves_56 : zH 2 := (show zT 2 from (((25, 63, bg_205), (0, 7, 0x3000000000200000000010000000006000000000500000000040100000000)), ((0, 66, bg_6), (0, 11, bg_13))), (4, (0, 0)))
theorem ev_X9_moves_56 : f_X9_movesa [zR 1, zI 0, zI 3] h0_X9_moves_56 (zrk (zU) h1_X9_moves_56) = true := by decide +kernel
noncomputable def g_X9_moves_56 {d : Nat} : List zV → zH d → zP d → Bool := zsmy [(0, 0), (1, 33), (1, 3), (1, 4)] [zR 1, zI 0, zI 3] h0_X9_moves_56 (zU) h1_X9_moves_56
theorem mg_X9_moves_56 {d : Nat} : zMet (d := d) X_X9_moves yX9_moves 2 g_X9_moves_56 := zMet_sm m_X9_movesa ev_X9_moves_56
noncomputable def h0_X9_moves_57 : zH 2 := (show zT 2 from (zk_99_zs1_99_k00_X9_moves_0, ((0, 66, bg_6), (0, 11, bg_13))), (4, (0, 0)))
noncomputable def h1_X9_moves_57 : zH 2 := (show zT 2 from (((25, 63, bg_205), (0, 7, 0x6000000000500000000040000000003000000000200000000010100000000)), ((0, 66, bg_6), (0, 11, bg_13))), (4, (0, 0)))
theorem ev_X9_moves_57 : f_X9_movesa [zR 1, zI 0, zI 6] h0_X9_moves_57 (zrk (zU) h1_X9_moves_57) = true := by decide +kernel
noncomputable def g_X9_moves_57 {d : Nat} : List zV → zH d → zP d → Bool := zsmy [(0, 0), (1, 33), (1, 3), (1, 4)] [zR 1, zI 0, zI 6] h0_X9_moves_57 (zU) h1_X9_moves_57
theorem mg_X9_moves_57 {d : Nat} : zMet (d := d) X_X9_moves yX9_moves 2 g_X9_moves_57 := zMet_sm m_X9_movesa ev_X9_moves_57
noncomputable def h0_X9_moves_58 : zH 2 := (show zT 2 from (zk_99_zs1_99_k00_X9_moves_0, ((0, 66, bg_6), (0, 11, bg_13))), (4, (0, 0)))
noncomputable def h1_X9_moves_58 : zH 2 := (show zT 2 from (((25, 63, bg_205), (0, 7, 0x6000000000400000000050000000001000000000300000000020100000000)), ((0, 66, bg_6), (0, 11, bg_13))), (4, (0, 0)))
theorem ev_X9_moves_58 : f_X9_movesa [zR 1, zI 5, zI 1] h0_X9_moves_58 (zrk (zU) h1_X9_moves_58) = true := by decide +kernel
noncomputable def g_X9_moves_58 {d : Nat} : List zV → zH d → zP d → Bool := zsmy [(0, 0), (1, 33), (1, 3), (1, 4)] [zR 1, zI 5, zI 1] h0_X9_moves_58 (zU) h1_X9_moves_58
theorem mg_X9_moves_58 {d : Nat} : zMet (d := d) X_X9_moves yX9_moves 2 g_X9_moves_58 := zMet_sm m_X9_movesa ev_X9_moves_58
noncomputable def h0_X9_moves_59 : zH 2 := (show zT 2 from (zk_99_zs1_99_k00_X9_moves_0, ((0, 66, bg_6), (0, 11, bg_13))), (4, (0, 0)))
noncomputable def h1_X9_moves_59 : zH 2 := (show zT 2 from (((25, 63, bg_205), (0, 7, 0x6000000000500000000040000000002000000000100000000030100000000)), ((0, 66, bg_6), (0, 11, bg_13))), (4, (0, 0)))
theorem ev_X9_moves_59 : f_X9_movesa [zR 1, zI 5, zI 2] h0_X9_moves_59 (zrk (zU) h1_X9_moves_59) = true := by decide +kernel
noncomputable def g_X9_moves_59 {d : Nat} : List zV → zH d → zP d → Bool := zsmy [(0, 0), (1, 33), (1, 3), (1, 4)] [zR 1, zI 5, zI 2] h0_X9_moves_59 (zU) h1_X9_moves_59
theorem mg_X9_moves_59 {d : Nat} : zMet (d := d) X_X9_moves yX9_moves 2 g_X9_moves_59 := zMet_sm m_X9_movesa ev_X9_moves_59
noncomputable def h0_X9_moves_60 : zH 2 := (show zT 2 from (zk_99_zs1_99_k00_X9_moves_0, ((0, 66, bg_6), (0, 11, bg_13))), (4, (0, 0)))
noncomputable def h1_X9_moves_60 : zH 2 := (show zT 2 from (((25, 63, bg_205), (0, 7, 0x6000000000400000000050000000003000000000200000000010100000000)), ((0, 66, bg_6), (0, 11, bg_13))), (4, (0, 0)))
theorem ev_X9_moves_60 : f_X9_movesa [zR 1, zI 5, zI 3] h0_X9_moves_60 (zrk (zU) h1_X9_moves_60) = true := by decide +kernel
noncomputable def g_X9_moves_60 {d : Nat} : List zV → zH d → zP d → Bool := zsmy [(0, 0), (1, 33), (1, 3), (1, 4)] [zR 1, zI 5, zI 3] h0_X9_moves_60 (zU) h1_X9_moves_60
theorem mg_X9_moves_60 {d : Nat} : zMet (d := d) X_X9_moves yX9_moves 2 g_X9_moves_60 := zMet_sm m_X9_movesa ev_X9_moves_60
noncomputable def h0_X9_moves_61 : zH 2 := (show zT 2 from (zk_99_zs1_99_k00_X9_moves_0, ((0, 66, bg_6), (0, 11, bg_13))), (4, (0, 0)))
noncomputable def h1_X9_moves_61 : zH 2 := (show zT 2 from (((25, 63, bg_205), (0, 7, 0x6000000000500000000040000000003000000000200000000010100000000)), ((0, 66, bg_6), (0, 11, bg_13))), (4, (0, 0)))
theorem ev_X9_moves_61 : f_X9_movesa [zR 1, zI 5, zI 6] h0_X9_moves_61 (zrk (zU) h1_X9_moves_61) = true := by decide +kernel
noncomputable def g_X9_moves_61 {d : Nat} : List zV → zH d → zP d → Bool := zsmy [(0, 0), (1, 33), (1, 3), (1, 4)] [zR 1, zI 5, zI 6] h0_X9_moves_61 (zU) h1_X9_moves_61
theorem mg_X9_moves_61 {d : Nat} : zMet (d := d) X_X9_moves yX9_moves 2 g_X9_moves_61 := zMet_sm m_X9_movesa ev_X9_moves_61
set_option maxRecDepth 100000 in
noncomputable def gs_X9_moves {d : Nat} : List zV → zH d → zP d → Bool := zwt (hsK (hsK (hsF 0 [] 0) (hsL 1)) (hsL 2)) [(2098178, g_X9_moves_0), (3147778, g_X9_moves_1), (3146754, g_X9_moves_2), (3146755, g_X9_moves_3), (4195330, g_X9_moves_4), (4195332, g_X9_moves_5), (4197378, g_X9_moves_6), (4196354, g_X9_moves_7), (4196355, g_X9_moves_8), (5244930, g_X9_moves_9), (5244932, g_X9_moves_10), (5248002, g_X9_moves_11), (5243906, g_X9_moves_12), (5243907, g_X9_moves_13), (5243909, g_X9_moves_14), (5245954, g_X9_moves_15), (5245955, g_X9_moves_16), (5246978, g_X9_moves_17), (5246979, g_X9_moves_18), (6292482, g_X9_moves_19), (6292486, g_X9_moves_20), (6295554, g_X9_moves_21), (6295556, g_X9_moves_22), (6298626, g_X9_moves_23), (6293506, g_X9_moves_24), (6293507, g_X9_moves_25), (6293509, g_X9_moves_26), (6296578, g_X9_moves_27), (6296579, g_X9_moves_28), (6297602, g_X9_moves_29), (6297603, g_X9_moves_30), (6294530, g_X9_moves_31), (6294531, g_X9_moves_32), (6294532, g_X9_moves_33), (6294535, g_X9_moves_34), (7342082, g_X9_moves_35), (7342086, g_X9_moves_36), (7345154, g_X9_moves_37), (7345156, g_X9_moves_38), (7347202, g_X9_moves_39), (7347204, g_X9_moves_40), (7351298, g_X9_moves_41), (7343106, g_X9_moves_42), (7343107, g_X9_moves_43), (7343109, g_X9_moves_44), (7344130, g_X9_moves_45), (7344131, g_X9_moves_46), (7344133, g_X9_moves_47), (7348226, g_X9_moves_48), (7348227, g_X9_moves_49), (7349250, g_X9_moves_50), (7349251, g_X9_moves_51), (7350274, g_X9_moves_52), (7350275, g_X9_moves_53), (7341058, g_X9_moves_54), (7341059, g_X9_moves_55), (7341060, g_X9_moves_56), (7341063, g_X9_moves_57), (7346178, g_X9_moves_58), (7346179, g_X9_moves_59), (7346180, g_X9_moves_60), (7346183, g_X9_moves_61)]
set_option maxRecDepth 100000 in
theorem mgs_X9_moves {d : Nat} : zMet (d := d) X_X9_moves yX9_moves 2 gs_X9_moves := zMet_wt (hsK_ok (hsK_ok hsF_ok hsL_ok) hsL_ok) (zwt_c mg_X9_moves_0 (zwt_c mg_X9_moves_1 (zwt_c mg_X9_moves_2 (zwt_c mg_X9_moves_3 (zwt_c mg_X9_moves_4 (zwt_c mg_X9_moves_5 (zwt_c mg_X9_moves_6 (zwt_c mg_X9_moves_7 (zwt_c mg_X9_moves_8 (zwt_c mg_X9_moves_9 (zwt_c mg_X9_moves_10 (zwt_c mg_X9_moves_11 (zwt_c mg_X9_moves_12 (zwt_c mg_X9_moves_13 (zwt_c mg_X9_moves_14 (zwt_c mg_X9_moves_15 (zwt_c mg_X9_moves_16 (zwt_c mg_X9_moves_17 (zwt_c mg_X9_moves_18 (zwt_c mg_X9_moves_19 (zwt_c mg_X9_moves_20 (zwt_c mg_X9_moves_21 (zwt_c mg_X9_moves_22 (zwt_c mg_X9_moves_23 (zwt_c mg_X9_moves_24 (zwt_c mg_X9_moves_25 (zwt_c mg_X9_moves_26 (zwt_c mg_X9_moves_27 (zwt_c mg_X9_moves_28 (zwt_c mg_X9_moves_29 (zwt_c mg_X9_moves_30 (zwt_c mg_X9_moves_31 (zwt_c mg_X9_moves_32 (zwt_c mg_X9_moves_33 (zwt_c mg_X9_moves_34 (zwt_c mg_X9_moves_35 (zwt_c mg_X9_moves_36 (zwt_c mg_X9_moves_37 (zwt_c mg_X9_moves_38 (zwt_c mg_X9_moves_39 (zwt_c mg_X9_moves_40 (zwt_c mg_X9_moves_41 (zwt_c mg_X9_moves_42 (zwt_c mg_X9_moves_43 (zwt_c mg_X9_moves_44 (zwt_c mg_X9_moves_45 (zwt_c mg_X9_moves_46 (zwt_c mg_X9_moves_47 (zwt_c mg_X9_moves_48 (zwt_c mg_X9_moves_49 (zwt_c mg_X9_moves_50 (zwt_c mg_X9_moves_51 (zwt_c mg_X9_moves_52 (zwt_c mg_X9_moves_53 (zwt_c mg_X9_moves_54 (zwt_c mg_X9_moves_55 (zwt_c mg_X9_moves_56 (zwt_c mg_X9_moves_57 (zwt_c mg_X9_moves_58 (zwt_c mg_X9_moves_59 (zwt_c mg_X9_moves_60 (zwt_c mg_X9_moves_61 zwt_n))))))))))))))))))))))))))))))))))))))))))))))))))))))))))))))
end
