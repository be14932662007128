/-! the reference by summaries, by program -/
noncomputable def h0_X9_fills_26 : zH 2 := (show zT 2 from (((25, 63, bg_92), (0, 66, bg_6)), ((0, 456, bg_91), (0, 6, 0x600000000040000000006000000000500000000060000000006))), (4, (0, 0)))
noncomputable def h1_X9_fills_26 : zH 2 := (show zT 2 from (((25, 63, bg_93), (0, 66, bg_6)), ((0, 456, bg_94), (0, 6, 0x400000000040000000006000000000500000000060000000006))), (4, (0, 0)))
theorem ev_X9_fills_26 : f_X9_fills [zR 1, zI 0, zI 0] h0_X9_fills_26 (zrk (zU) h1_X9_fills_26) = true := by decide +kernel
noncomputable def g_X9_fills_26 {d : Nat} : List zV → zH d → zP d → Bool := zsmy [(0, 0), (1, 3), (1, 22), (1, 24)] [zR 1, zI 0, zI 0] h0_X9_fills_26 (zU) h1_X9_fills_26
theorem mg_X9_fills_26 {d : Nat} : zMet (d := d) X_X9_fills yX9_fills 10 g_X9_fills_26 := zMet_sm m_X9_fills ev_X9_fills_26
