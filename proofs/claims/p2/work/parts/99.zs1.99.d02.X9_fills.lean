/-! the reference by summaries, by program -/
noncomputable def h0_X9_fills_19 : zH 2 := (show zT 2 from (((25, 63, bg_71), (0, 66, bg_6)), ((0, 456, bg_70), (0, 6, 0x600000000060000000006000000000600000000060000000006))), (4, (0, 0)))
noncomputable def h1_X9_fills_19 : zH 2 := (show zT 2 from (((25, 63, bg_72), (0, 66, bg_6)), ((0, 456, bg_73), (0, 6, 0x200000000060000000006000000000600000000060000000006))), (4, (0, 0)))
theorem ev_X9_fills_19 : f_X9_fills [zR 1, zI 0, zI 0] h0_X9_fills_19 (zrk (zU) h1_X9_fills_19) = true := by decide +kernel
noncomputable def g_X9_fills_19 {d : Nat} : List zV → zH d → zP d → Bool := zsmy [(0, 0), (1, 3), (1, 22), (1, 24)] [zR 1, zI 0, zI 0] h0_X9_fills_19 (zU) h1_X9_fills_19
theorem mg_X9_fills_19 {d : Nat} : zMet (d := d) X_X9_fills yX9_fills 10 g_X9_fills_19 := zMet_sm m_X9_fills ev_X9_fills_19
noncomputable def h0_X9_fills_20 : zH 2 := (show zT 2 from (((25, 63, bg_74), (0, 66, bg_6)), ((0, 456, bg_73), (0, 6, 0x200000000060000000006000000000600000000060000000006))), (4, (0, 0)))
noncomputable def h1_X9_fills_20 : zH 2 := (show zT 2 from (((25, 63, bg_75), (0, 66, bg_6)), ((0, 456, bg_76), (0, 6, 0x400000000030000000006000000000600000000060000000006))), (4, (0, 0)))
theorem ev_X9_fills_20 : f_X9_fills [zR 1, zI 0, zI 0] h0_X9_fills_20 (zrk (zU) h1_X9_fills_20) = true := by decide +kernel
noncomputable def g_X9_fills_20 {d : Nat} : List zV → zH d → zP d → Bool := zsmy [(0, 0), (1, 3), (1, 22), (1, 24)] [zR 1, zI 0, zI 0] h0_X9_fills_20 (zU) h1_X9_fills_20
theorem mg_X9_fills_20 {d : Nat} : zMet (d := d) X_X9_fills yX9_fills 10 g_X9_fills_20 := zMet_sm m_X9_fills ev_X9_fills_20
noncomputable def h0_X9_fills_21 : zH 2 := (show zT 2 from (((25, 63, bg_77), (0, 66, bg_6)), ((0, 456, bg_76), (0, 6, 0x400000000030000000006000000000600000000060000000006))), (4, (0, 0)))
noncomputable def h1_X9_fills_21 : zH 2 := (show zT 2 from (((25, 63, bg_78), (0, 66, bg_6)), ((0, 456, bg_79), (0, 6, 0x300000000030000000006000000000600000000060000000006))), (4, (0, 0)))
theorem ev_X9_fills_21 : f_X9_fills [zR 1, zI 0, zI 0] h0_X9_fills_21 (zrk (zU) h1_X9_fills_21) = true := by decide +kernel
noncomputable def g_X9_fills_21 {d : Nat} : List zV → zH d → zP d → Bool := zsmy [(0, 0), (1, 3), (1, 22), (1, 24)] [zR 1, zI 0, zI 0] h0_X9_fills_21 (zU) h1_X9_fills_21
theorem mg_X9_fills_21 {d : Nat} : zMet (d := d) X_X9_fills yX9_fills 10 g_X9_fills_21 := zMet_sm m_X9_fills ev_X9_fills_21
