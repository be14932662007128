/-! the reference by summaries, by program -/
noncomputable def h0_X9_fills_15 : zH 2 := (show zT 2 from (((25, 63, bg_59), (0, 66, bg_5)), ((0, 456, bg_58), (0, 6, 0x10000000000000000030000000003000000000500000000050000000005))), (4, (0, 0)))
noncomputable def h1_X9_fills_15 : zH 2 := (show zT 2 from (((25, 63, bg_60), (0, 66, bg_5)), ((0, 456, bg_61), (0, 6, 0x10000000000000000030000000005000000000400000000050000000005))), (4, (0, 0)))
theorem ev_X9_fills_15 : f_X9_fills [zR 1, zI 0, zI 0] h0_X9_fills_15 (zrk (zU) h1_X9_fills_15) = true := by decide +kernel
noncomputable def g_X9_fills_15 {d : Nat} : List zV → zH d → zP d → Bool := zsmy [(0, 0), (1, 3), (1, 22), (1, 24)] [zR 1, zI 0, zI 0] h0_X9_fills_15 (zU) h1_X9_fills_15
theorem mg_X9_fills_15 {d : Nat} : zMet (d := d) X_X9_fills yX9_fills 10 g_X9_fills_15 := zMet_sm m_X9_fills ev_X9_fills_15
noncomputable def h0_X9_fills_16 : zH 2 := (show zT 2 from (((25, 63, bg_62), (0, 66, bg_5)), ((0, 456, bg_61), (0, 6, 0x10000000000000000030000000005000000000400000000050000000005))), (4, (0, 0)))
noncomputable def h1_X9_fills_16 : zH 2 := (show zT 2 from (((25, 63, bg_63), (0, 66, bg_5)), ((0, 456, bg_64), (0, 6, 0x10000000000000000040000000004000000000400000000050000000005))), (4, (0, 0)))
theorem ev_X9_fills_16 : f_X9_fills [zR 1, zI 0, zI 0] h0_X9_fills_16 (zrk (zU) h1_X9_fills_16) = true := by decide +kernel
noncomputable def g_X9_fills_16 {d : Nat} : List zV → zH d → zP d → Bool := zsmy [(0, 0), (1, 3), (1, 22), (1, 24)] [zR 1, zI 0, zI 0] h0_X9_fills_16 (zU) h1_X9_fills_16
theorem mg_X9_fills_16 {d : Nat} : zMet (d := d) X_X9_fills yX9_fills 10 g_X9_fills_16 := zMet_sm m_X9_fills ev_X9_fills_16
noncomputable def h0_X9_fills_17 : zH 2 := (show zT 2 from (((25, 63, bg_65), (0, 66, bg_5)), ((0, 456, bg_64), (0, 6, 0x10000000000000000040000000004000000000400000000050000000005))), (4, (0, 0)))
noncomputable def h1_X9_fills_17 : zH 2 := (show zT 2 from (((25, 63, bg_66), (0, 66, bg_5)), ((0, 456, bg_67), (0, 6, 0x10000000000000000050000000005000000000500000000050000000005))), (4, (0, 0)))
theorem ev_X9_fills_17 : f_X9_fills [zR 1, zI 0, zI 0] h0_X9_fills_17 (zrk (zU) h1_X9_fills_17) = true := by decide +kernel
noncomputable def g_X9_fills_17 {d : Nat} : List zV → zH d → zP d → Bool := zsmy [(0, 0), (1, 3), (1, 22), (1, 24)] [zR 1, zI 0, zI 0] h0_X9_fills_17 (zU) h1_X9_fills_17
theorem mg_X9_fills_17 {d : Nat} : zMet (d := d) X_X9_fills yX9_fills 10 g_X9_fills_17 := zMet_sm m_X9_fills ev_X9_fills_17
noncomputable def h0_X9_fills_18 : zH 2 := (show zT 2 from (((25, 63, bg_68), (0, 66, bg_6)), ((0, 456, zun 40 456 4294967296), (0, 6, 0x10000000001000000000100000000010000000001000000000100000000))), (4, (0, 0)))
noncomputable def h1_X9_fills_18 : zH 2 := (show zT 2 from (((25, 63, bg_69), (0, 66, bg_6)), ((0, 456, bg_70), (0, 6, 0x600000000060000000006000000000600000000060000000006))), (4, (0, 0)))
theorem ev_X9_fills_18 : f_X9_fills [zR 1, zI 0, zI 0] h0_X9_fills_18 (zrk (zU) h1_X9_fills_18) = true := by decide +kernel
noncomputable def g_X9_fills_18 {d : Nat} : List zV → zH d → zP d → Bool := zsmy [(0, 0), (1, 3), (1, 22), (1, 24)] [zR 1, zI 0, zI 0] h0_X9_fills_18 (zU) h1_X9_fills_18
theorem mg_X9_fills_18 {d : Nat} : zMet (d := d) X_X9_fills yX9_fills 10 g_X9_fills_18 := zMet_sm m_X9_fills ev_X9_fills_18
