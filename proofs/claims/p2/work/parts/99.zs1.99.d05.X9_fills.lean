/-! the reference by summaries, by program -/
noncomputable def h0_X9_fills_24 : zH 2 := (show zT 2 from (((25, 63, bg_86), (0, 66, bg_6)), ((0, 456, bg_85), (0, 6, 0x300000000050000000004000000000600000000060000000006))), (4, (0, 0)))
noncomputable def h1_X9_fills_24 : zH 2 := (show zT 2 from (((25, 63, bg_87), (0, 66, bg_6)), ((0, 456, bg_88), (0, 6, 0x400000000040000000004000000000600000000060000000006))), (4, (0, 0)))
theorem ev_X9_fills_24 : f_X9_fills [zR 1, zI 0, zI 0] h0_X9_fills_24 (zrk (zU) h1_X9_fills_24) = true := by decide +kernel
noncomputable def g_X9_fills_24 {d : Nat} : List zV → zH d → zP d → Bool := zsmy [(0, 0), (1, 3), (1, 22), (1, 24)] [zR 1, zI 0, zI 0] h0_X9_fills_24 (zU) h1_X9_fills_24
theorem mg_X9_fills_24 {d : Nat} : zMet (d := d) X_X9_fills yX9_fills 10 g_X9_fills_24 := zMet_sm m_X9_fills ev_X9_fills_24
