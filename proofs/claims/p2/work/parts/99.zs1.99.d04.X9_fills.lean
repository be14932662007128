/-! the reference by summaries, by program -/
noncomputable def h0_X9_fills_23 : zH 2 := (show zT 2 from (((25, 63, bg_83), (0, 66, bg_6)), ((0, 456, bg_82), (0, 6, 0x600000000050000000004000000000600000000060000000006))), (4, (0, 0)))
noncomputable def h1_X9_fills_23 : zH 2 := (show zT 2 from (((25, 63, bg_84), (0, 66, bg_6)), ((0, 456, bg_85), (0, 6, 0x300000000050000000004000000000600000000060000000006))), (4, (0, 0)))
theorem ev_X9_fills_23 : f_X9_fills [zR 1, zI 0, zI 0] h0_X9_fills_23 (zrk (zU) h1_X9_fills_23) = true := by decide +kernel
noncomputable def g_X9_fills_23 {d : Nat} : List zV → zH d → zP d → Bool := zsmy [(0, 0), (1, 3), (1, 22), (1, 24)] [zR 1, zI 0, zI 0] h0_X9_fills_23 (zU) h1_X9_fills_23
theorem mg_X9_fills_23 {d : Nat} : zMet (d := d) X_X9_fills yX9_fills 10 g_X9_fills_23 := zMet_sm m_X9_fills ev_X9_fills_23
