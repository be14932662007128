/-! the reference by summaries, by program -/
noncomputable def h0_X9_fills_0 : zH 2 := (show zT 2 from (((25, 63, bg_14), (0, 66, bg_1)), ((0, 456, zun 40 456 4294967296), (0, 6, 0x10000000001000000000100000000010000000001000000000100000000))), (4, (0, 0)))
noncomputable def h1_X9_fills_0 : zH 2 := (show zT 2 from (((25, 63, bg_15), (0, 66, bg_1)), ((0, 456, bg_16), (0, 6, 0x10000000001000000000100000000010000000001000000000000000001))), (4, (0, 0)))
theorem ev_X9_fills_0 : f_X9_fills [zR 1, zI 0, zI 0] h0_X9_fills_0 (zrk (zU) h1_X9_fills_0) = true := by decide +kernel
noncomputable def g_X9_fills_0 {d : Nat} : List zV → zH d → zP d → Bool := zsmy [(0, 0), (1, 3), (1, 22), (1, 24)] [zR 1, zI 0, zI 0] h0_X9_fills_0 (zU) h1_X9_fills_0
theorem mg_X9_fills_0 {d : Nat} : zMet (d := d) X_X9_fills yX9_fills 10 g_X9_fills_0 := zMet_sm m_X9_fills ev_X9_fills_0
noncomputable def h0_X9_fills_1 : zH 2 := (show zT 2 from (((25, 63, bg_17), (0, 66, bg_2)), ((0, 456, zun 40 456 4294967296), (0, 6, 0x10000000001000000000100000000010000000001000000000100000000))), (4, (0, 0)))
noncomputable def h1_X9_fills_1 : zH 2 := (show zT 2 from (((25, 63, bg_18), (0, 66, bg_2)), ((0, 456, bg_19), (0, 6, 0x10000000001000000000100000000010000000000000000020000000002))), (4, (0, 0)))
theorem ev_X9_fills_1 : f_X9_fills [zR 1, zI 0, zI 0] h0_X9_fills_1 (zrk (zU) h1_X9_fills_1) = true := by decide +kernel
noncomputable def g_X9_fills_1 {d : Nat} : List zV → zH d → zP d → Bool := zsmy [(0, 0), (1, 3), (1, 22), (1, 24)] [zR 1, zI 0, zI 0] h0_X9_fills_1 (zU) h1_X9_fills_1
theorem mg_X9_fills_1 {d : Nat} : zMet (d := d) X_X9_fills yX9_fills 10 g_X9_fills_1 := zMet_sm m_X9_fills ev_X9_fills_1
noncomputable def h0_X9_fills_2 : zH 2 := (show zT 2 from (((25, 63, bg_20), (0, 66, bg_2)), ((0, 456, bg_19), (0, 6, 0x10000000001000000000100000000010000000000000000020000000002))), (4, (0, 0)))
noncomputable def h1_X9_fills_2 : zH 2 := (show zT 2 from (((25, 63, bg_21), (0, 66, bg_2)), ((0, 456, bg_22), (0, 6, 0x10000000001000000000100000000010000000000000000020000000002))), (4, (0, 0)))
theorem ev_X9_fills_2 : f_X9_fills [zR 1, zI 0, zI 0] h0_X9_fills_2 (zrk (zU) h1_X9_fills_2) = true := by decide +kernel
noncomputable def g_X9_fills_2 {d : Nat} : List zV → zH d → zP d → Bool := zsmy [(0, 0), (1, 3), (1, 22), (1, 24)] [zR 1, zI 0, zI 0] h0_X9_fills_2 (zU) h1_X9_fills_2
theorem mg_X9_fills_2 {d : Nat} : zMet (d := d) X_X9_fills yX9_fills 10 g_X9_fills_2 := zMet_sm m_X9_fills ev_X9_fills_2
noncomputable def h0_X9_fills_3 : zH 2 := (show zT 2 from (((25, 63, bg_23), (0, 66, bg_3)), ((0, 456, zun 40 456 4294967296), (0, 6, 0x10000000001000000000100000000010000000001000000000100000000))), (4, (0, 0)))
noncomputable def h1_X9_fills_3 : zH 2 := (show zT 2 from (((25, 63, bg_24), (0, 66, bg_3)), ((0, 456, bg_25), (0, 6, 0x10000000001000000000100000000000000000300000000030000000003))), (4, (0, 0)))
theorem ev_X9_fills_3 : f_X9_fills [zR 1, zI 0, zI 0] h0_X9_fills_3 (zrk (zU) h1_X9_fills_3) = true := by decide +kernel
noncomputable def g_X9_fills_3 {d : Nat} : List zV → zH d → zP d → Bool := zsmy [(0, 0), (1, 3), (1, 22), (1, 24)] [zR 1, zI 0, zI 0] h0_X9_fills_3 (zU) h1_X9_fills_3
theorem mg_X9_fills_3 {d : Nat} : zMet (d := d) X_X9_fills yX9_fills 10 g_X9_fills_3 := zMet_sm m_X9_fills ev_X9_fills_3
noncomputable def h0_X9_fills_4 : zH 2 := (show zT 2 from (((25, 63, bg_26), (0, 66, bg_3)), ((0, 456, bg_25), (0, 6, 0x10000000001000000000100000000000000000300000000030000000003))), (4, (0, 0)))
noncomputable def h1_X9_fills_4 : zH 2 := (show zT 2 from (((25, 63, bg_27), (0, 66, bg_3)), ((0, 456, bg_28), (0, 6, 0x10000000001000000000100000000000000000200000000030000000003))), (4, (0, 0)))
theorem ev_X9_fills_4 : f_X9_fills [zR 1, zI 0, zI 0] h0_X9_fills_4 (zrk (zU) h1_X9_fills_4) = true := by decide +kernel
noncomputable def g_X9_fills_4 {d : Nat} : List zV → zH d → zP d → Bool := zsmy [(0, 0), (1, 3), (1, 22), (1, 24)] [zR 1, zI 0, zI 0] h0_X9_fills_4 (zU) h1_X9_fills_4
theorem mg_X9_fills_4 {d : Nat} : zMet (d := d) X_X9_fills yX9_fills 10 g_X9_fills_4 := zMet_sm m_X9_fills ev_X9_fills_4
noncomputable def h0_X9_fills_5 : zH 2 := (show zT 2 from (((25, 63, bg_29), (0, 66, bg_3)), ((0, 456, bg_28), (0, 6, 0x10000000001000000000100000000000000000200000000030000000003))), (4, (0, 0)))
noncomputable def h1_X9_fills_5 : zH 2 := (show zT 2 from (((25, 63, bg_30), (0, 66, bg_3)), ((0, 456, bg_31), (0, 6, 0x10000000001000000000100000000000000000300000000030000000003))), (4, (0, 0)))
theorem ev_X9_fills_5 : f_X9_fills [zR 1, zI 0, zI 0] h0_X9_fills_5 (zrk (zU) h1_X9_fills_5) = true := by decide +kernel
noncomputable def g_X9_fills_5 {d : Nat} : List zV → zH d → zP d → Bool := zsmy [(0, 0), (1, 3), (1, 22), (1, 24)] [zR 1, zI 0, zI 0] h0_X9_fills_5 (zU) h1_X9_fills_5
theorem mg_X9_fills_5 {d : Nat} : zMet (d := d) X_X9_fills yX9_fills 10 g_X9_fills_5 := zMet_sm m_X9_fills ev_X9_fills_5
noncomputable def h0_X9_fills_6 : zH 2 := (show zT 2 from (((25, 63, bg_32), (0, 66, bg_4)), ((0, 456, zun 40 456 4294967296), (0, 6, 0x10000000001000000000100000000010000000001000000000100000000))), (4, (0, 0)))
noncomputable def h1_X9_fills_6 : zH 2 := (show zT 2 from (((25, 63, bg_33), (0, 66, bg_4)), ((0, 456, bg_34), (0, 6, 0x10000000001000000000000000004000000000400000000040000000004))), (4, (0, 0)))
theorem ev_X9_fills_6 : f_X9_fills [zR 1, zI 0, zI 0] h0_X9_fills_6 (zrk (zU) h1_X9_fills_6) = true := by decide +kernel
noncomputable def g_X9_fills_6 {d : Nat} : List zV → zH d → zP d → Bool := zsmy [(0, 0), (1, 3), (1, 22), (1, 24)] [zR 1, zI 0, zI 0] h0_X9_fills_6 (zU) h1_X9_fills_6
theorem mg_X9_fills_6 {d : Nat} : zMet (d := d) X_X9_fills yX9_fills 10 g_X9_fills_6 := zMet_sm m_X9_fills ev_X9_fills_6
noncomputable def h0_X9_fills_7 : zH 2 := (show zT 2 from (((25, 63, bg_35), (0, 66, bg_4)), ((0, 456, bg_34), (0, 6, 0x10000000001000000000000000004000000000400000000040000000004))), (4, (0, 0)))
noncomputable def h1_X9_fills_7 : zH 2 := (show zT 2 from (((25, 63, bg_36), (0, 66, bg_4)), ((0, 456, bg_37), (0, 6, 0x10000000001000000000000000002000000000400000000040000000004))), (4, (0, 0)))
theorem ev_X9_fills_7 : f_X9_fills [zR 1, zI 0, zI 0] h0_X9_fills_7 (zrk (zU) h1_X9_fills_7) = true := by decide +kernel
noncomputable def g_X9_fills_7 {d : Nat} : List zV → zH d → zP d → Bool := zsmy [(0, 0), (1, 3), (1, 22), (1, 24)] [zR 1, zI 0, zI 0] h0_X9_fills_7 (zU) h1_X9_fills_7
theorem mg_X9_fills_7 {d : Nat} : zMet (d := d) X_X9_fills yX9_fills 10 g_X9_fills_7 := zMet_sm m_X9_fills ev_X9_fills_7
noncomputable def h0_X9_fills_8 : zH 2 := (show zT 2 from (((25, 63, bg_38), (0, 66, bg_4)), ((0, 456, bg_37), (0, 6, 0x10000000001000000000000000002000000000400000000040000000004))), (4, (0, 0)))
noncomputable def h1_X9_fills_8 : zH 2 := (show zT 2 from (((25, 63, bg_39), (0, 66, bg_4)), ((0, 456, bg_40), (0, 6, 0x10000000001000000000000000004000000000300000000040000000004))), (4, (0, 0)))
theorem ev_X9_fills_8 : f_X9_fills [zR 1, zI 0, zI 0] h0_X9_fills_8 (zrk (zU) h1_X9_fills_8) = true := by decide +kernel
noncomputable def g_X9_fills_8 {d : Nat} : List zV → zH d → zP d → Bool := zsmy [(0, 0), (1, 3), (1, 22), (1, 24)] [zR 1, zI 0, zI 0] h0_X9_fills_8 (zU) h1_X9_fills_8
theorem mg_X9_fills_8 {d : Nat} : zMet (d := d) X_X9_fills yX9_fills 10 g_X9_fills_8 := zMet_sm m_X9_fills ev_X9_fills_8
noncomputable def h0_X9_fills_9 : zH 2 := (show zT 2 from (((25, 63, bg_41), (0, 66, bg_4)), ((0, 456, bg_40), (0, 6, 0x10000000001000000000000000004000000000300000000040000000004))), (4, (0, 0)))
noncomputable def h1_X9_fills_9 : zH 2 := (show zT 2 from (((25, 63, bg_42), (0, 66, bg_4)), ((0, 456, bg_43), (0, 6, 0x10000000001000000000000000003000000000300000000040000000004))), (4, (0, 0)))
theorem ev_X9_fills_9 : f_X9_fills [zR 1, zI 0, zI 0] h0_X9_fills_9 (zrk (zU) h1_X9_fills_9) = true := by decide +kernel
noncomputable def g_X9_fills_9 {d : Nat} : List zV → zH d → zP d → Bool := zsmy [(0, 0), (1, 3), (1, 22), (1, 24)] [zR 1, zI 0, zI 0] h0_X9_fills_9 (zU) h1_X9_fills_9
theorem mg_X9_fills_9 {d : Nat} : zMet (d := d) X_X9_fills yX9_fills 10 g_X9_fills_9 := zMet_sm m_X9_fills ev_X9_fills_9
noncomputable def h0_X9_fills_10 : zH 2 := (show zT 2 from (((25, 63, bg_44), (0, 66, bg_4)), ((0, 456, bg_43), (0, 6, 0x10000000001000000000000000003000000000300000000040000000004))), (4, (0, 0)))
noncomputable def h1_X9_fills_10 : zH 2 := (show zT 2 from (((25, 63, bg_45), (0, 66, bg_4)), ((0, 456, bg_46), (0, 6, 0x10000000001000000000000000004000000000400000000040000000004))), (4, (0, 0)))
theorem ev_X9_fills_10 : f_X9_fills [zR 1, zI 0, zI 0] h0_X9_fills_10 (zrk (zU) h1_X9_fills_10) = true := by decide +kernel
noncomputable def g_X9_fills_10 {d : Nat} : List zV → zH d → zP d → Bool := zsmy [(0, 0), (1, 3), (1, 22), (1, 24)] [zR 1, zI 0, zI 0] h0_X9_fills_10 (zU) h1_X9_fills_10
theorem mg_X9_fills_10 {d : Nat} : zMet (d := d) X_X9_fills yX9_fills 10 g_X9_fills_10 := zMet_sm m_X9_fills ev_X9_fills_10
noncomputable def h0_X9_fills_11 : zH 2 := (show zT 2 from (((25, 63, bg_47), (0, 66, bg_5)), ((0, 456, zun 40 456 4294967296), (0, 6, 0x10000000001000000000100000000010000000001000000000100000000))), (4, (0, 0)))
noncomputable def h1_X9_fills_11 : zH 2 := (show zT 2 from (((25, 63, bg_48), (0, 66, bg_5)), ((0, 456, bg_49), (0, 6, 0x10000000000000000050000000005000000000500000000050000000005))), (4, (0, 0)))
theorem ev_X9_fills_11 : f_X9_fills [zR 1, zI 0, zI 0] h0_X9_fills_11 (zrk (zU) h1_X9_fills_11) = true := by decide +kernel
noncomputable def g_X9_fills_11 {d : Nat} : List zV → zH d → zP d → Bool := zsmy [(0, 0), (1, 3), (1, 22), (1, 24)] [zR 1, zI 0, zI 0] h0_X9_fills_11 (zU) h1_X9_fills_11
theorem mg_X9_fills_11 {d : Nat} : zMet (d := d) X_X9_fills yX9_fills 10 g_X9_fills_11 := zMet_sm m_X9_fills ev_X9_fills_11
noncomputable def h0_X9_fills_12 : zH 2 := (show zT 2 from (((25, 63, bg_50), (0, 66, bg_5)), ((0, 456, bg_49), (0, 6, 0x10000000000000000050000000005000000000500000000050000000005))), (4, (0, 0)))
noncomputable def h1_X9_fills_12 : zH 2 := (show zT 2 from (((25, 63, bg_51), (0, 66, bg_5)), ((0, 456, bg_52), (0, 6, 0x10000000000000000020000000005000000000500000000050000000005))), (4, (0, 0)))
theorem ev_X9_fills_12 : f_X9_fills [zR 1, zI 0, zI 0] h0_X9_fills_12 (zrk (zU) h1_X9_fills_12) = true := by decide +kernel
noncomputable def g_X9_fills_12 {d : Nat} : List zV → zH d → zP d → Bool := zsmy [(0, 0), (1, 3), (1, 22), (1, 24)] [zR 1, zI 0, zI 0] h0_X9_fills_12 (zU) h1_X9_fills_12
theorem mg_X9_fills_12 {d : Nat} : zMet (d := d) X_X9_fills yX9_fills 10 g_X9_fills_12 := zMet_sm m_X9_fills ev_X9_fills_12
noncomputable def h0_X9_fills_13 : zH 2 := (show zT 2 from (((25, 63, bg_53), (0, 66, bg_5)), ((0, 456, bg_52), (0, 6, 0x10000000000000000020000000005000000000500000000050000000005))), (4, (0, 0)))
noncomputable def h1_X9_fills_13 : zH 2 := (show zT 2 from (((25, 63, bg_54), (0, 66, bg_5)), ((0, 456, bg_55), (0, 6, 0x10000000000000000040000000003000000000500000000050000000005))), (4, (0, 0)))
theorem ev_X9_fills_13 : f_X9_fills [zR 1, zI 0, zI 0] h0_X9_fills_13 (zrk (zU) h1_X9_fills_13) = true := by decide +kernel
noncomputable def g_X9_fills_13 {d : Nat} : List zV → zH d → zP d → Bool := zsmy [(0, 0), (1, 3), (1, 22), (1, 24)] [zR 1, zI 0, zI 0] h0_X9_fills_13 (zU) h1_X9_fills_13
theorem mg_X9_fills_13 {d : Nat} : zMet (d := d) X_X9_fills yX9_fills 10 g_X9_fills_13 := zMet_sm m_X9_fills ev_X9_fills_13
noncomputable def h0_X9_fills_14 : zH 2 := (show zT 2 from (((25, 63, bg_56), (0, 66, bg_5)), ((0, 456, bg_55), (0, 6, 0x10000000000000000040000000003000000000500000000050000000005))), (4, (0, 0)))
noncomputable def h1_X9_fills_14 : zH 2 := (show zT 2 from (((25, 63, bg_57), (0, 66, bg_5)), ((0, 456, bg_58), (0, 6, 0x10000000000000000030000000003000000000500000000050000000005))), (4, (0, 0)))
theorem ev_X9_fills_14 : f_X9_fills [zR 1, zI 0, zI 0] h0_X9_fills_14 (zrk (zU) h1_X9_fills_14) = true := by decide +kernel
noncomputable def g_X9_fills_14 {d : Nat} : List zV → zH d → zP d → Bool := zsmy [(0, 0), (1, 3), (1, 22), (1, 24)] [zR 1, zI 0, zI 0] h0_X9_fills_14 (zU) h1_X9_fills_14
theorem mg_X9_fills_14 {d : Nat} : zMet (d := d) X_X9_fills yX9_fills 10 g_X9_fills_14 := zMet_sm m_X9_fills ev_X9_fills_14
