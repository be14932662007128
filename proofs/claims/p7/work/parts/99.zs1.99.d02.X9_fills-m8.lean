section
/-! the reference by summaries, by program -/
noncomputable def h0_X9_fills_19 : zH 2 := (show zT 2 from (((25, 63, bg_71), (0, 66, bg_6)), ((0, 456, bg_70), (0, 6, 0x600000000060000000006000000000600000000060000000006))), (4, (0, 0)))
noncomputable def zk_99_zs1_99_d02_X9_fills_0 : zT 1 := @Prod.mk (zT 0) (zT 0) (0, 456, bg_73) (0, 6, 0x200000000060000000006000000000600000000060000000006)
noncomputable def h1_X9_fills_19 : zH 2 := (show zT 2 from (((25, 63, bg_72), (0, 66, bg_6)), zk_99_zs1_99_d02_X9_fills_0), (4, (0, 0)))
theorem ev_X9_fills_19 : f_X9_fills [zR 1, zI 0, zI 0] h0_X9_fills_19 (zrk (zU) h1_X9_fills_19) = true := by decide +kernel
noncomputable def g_X9_fills_19 {d : Nat} : List zV → zH d → zP d → Bool := zsmy [(0, 0), (1, 3), (1, 22), (1, 24)] [zR 1, zI 0, zI 0] h0_X9_fills_19 (zU) h1_X9_fills_19
theorem mg_X9_fills_19 {d : Nat} : zMet (d := d) X_X9_fills yX9_fills 10 g_X9_fills_19 := zMet_sm m_X9_fills ev_X9_fills_19
noncomputable def h0_X9_fills_20 : zH 2 := (show zT 2 from (((25, 63, bg_74), (0, 66, bg_6)), zk_99_zs1_99_d02_X9_fills_0), (4, (0, 0)))
noncomputable def zk_99_zs1_99_d02_X9_fills_1 : zT 1 := @Prod.mk (zT 0) (zT 0) (0, 456, bg_76) (0, 6, 0x400000000030000000006000000000600000000060000000006)
noncomputable def h1_X9_fills_20 : zH 2 := (show zT 2 from (((25, 63, bg_75), (0, 66, bg_6)), zk_99_zs1_99_d02_X9_fills_1), (4, (0, 0)))
theorem ev_X9_fills_20 : f_X9_fills [zR 1, zI 0, zI 0] h0_X9_fills_20 (zrk (zU) h1_X9_fills_20) = true := by decide +kernel
noncomputable def g_X9_fills_20 {d : Nat} : List zV → zH d → zP d → Bool := zsmy [(0, 0), (1, 3), (1, 22), (1, 24)] [zR 1, zI 0, zI 0] h0_X9_fills_20 (zU) h1_X9_fills_20
theorem mg_X9_fills_20 {d : Nat} : zMet (d := d) X_X9_fills yX9_fills 10 g_X9_fills_20 := zMet_sm m_X9_fills ev_X9_fills_20
noncomputable def h0_X9_fills_21 : zH 2 := (show zT 2 from (((25, 63, bg_77), (0, 66, bg_6)), zk_99_zs1_99_d02_X9_fills_1), (4, (0, 0)))
noncomputable def h1_X9_fills_21 : zH 2 := (show zT 2 from (((25, 63, bg_78), (0, 66, bg_6)), ((0, 456, bg_79), (0, 6, 0x300000000030000000006000000000600000000060000000006))), (4, (0, 0)))
theorem ev_X9_fills_21 : f_X9_fills [zR 1, zI 0, zI 0] h0_X9_fills_21 (zrk (zU) h1_X9_fills_21) = true := by decide +kernel
noncomputable def g_X9_fills_21 {d : Nat} : List zV → zH d → zP d → Bool := zsmy [(0, 0), (1, 3), (1, 22), (1, 24)] [zR 1, zI 0, zI 0] h0_X9_fills_21 (zU) h1_X9_fills_21
theorem mg_X9_fills_21 {d : Nat} : zMet (d := d) X_X9_fills yX9_fills 10 g_X9_fills_21 := zMet_sm m_X9_fills ev_X9_fills_21
end
section
/-! the reference by summaries, by program -/
noncomputable def h0_X9_fills_22 : zH 2 := (show zT 2 from (((25, 63, bg_80), (0, 66, bg_6)), ((0, 456, bg_79), (0, 6, 0x300000000030000000006000000000600000000060000000006))), (4, (0, 0)))
noncomputable def h1_X9_fills_22 : zH 2 := (show zT 2 from (((25, 63, bg_81), (0, 66, bg_6)), ((0, 456, bg_82), (0, 6, 0x600000000050000000004000000000600000000060000000006))), (4, (0, 0)))
theorem ev_X9_fills_22 : f_X9_fills [zR 1, zI 0, zI 0] h0_X9_fills_22 (zrk (zU) h1_X9_fills_22) = true := by decide +kernel
noncomputable def g_X9_fills_22 {d : Nat} : List zV → zH d → zP d → Bool := zsmy [(0, 0), (1, 3), (1, 22), (1, 24)] [zR 1, zI 0, zI 0] h0_X9_fills_22 (zU) h1_X9_fills_22
theorem mg_X9_fills_22 {d : Nat} : zMet (d := d) X_X9_fills yX9_fills 10 g_X9_fills_22 := zMet_sm m_X9_fills ev_X9_fills_22
end
section
/-! the reference by summaries, by program -/
noncomputable def h0_X9_fills_23 : zH 2 := (show zT 2 from (((25, 63, bg_83), (0, 66, bg_6)), ((0, 456, bg_82), (0, 6, 0x600000000050000000004000000000600000000060000000006))), (4, (0, 0)))
noncomputable def h1_X9_fills_23 : zH 2 := (show zT 2 from (((25, 63, bg_84), (0, 66, bg_6)), ((0, 456, bg_85), (0, 6, 0x300000000050000000004000000000600000000060000000006))), (4, (0, 0)))
theorem ev_X9_fills_23 : f_X9_fills [zR 1, zI 0, zI 0] h0_X9_fills_23 (zrk (zU) h1_X9_fills_23) = true := by decide +kernel
noncomputable def g_X9_fills_23 {d : Nat} : List zV → zH d → zP d → Bool := zsmy [(0, 0), (1, 3), (1, 22), (1, 24)] [zR 1, zI 0, zI 0] h0_X9_fills_23 (zU) h1_X9_fills_23
theorem mg_X9_fills_23 {d : Nat} : zMet (d := d) X_X9_fills yX9_fills 10 g_X9_fills_23 := zMet_sm m_X9_fills ev_X9_fills_23
end
section
/-! the reference by summaries, by program -/
noncomputable def h0_X9_fills_24 : zH 2 := (show zT 2 from (((25, 63, bg_86), (0, 66, bg_6)), ((0, 456, bg_85), (0, 6, 0x300000000050000000004000000000600000000060000000006))), (4, (0, 0)))
noncomputable def h1_X9_fills_24 : zH 2 := (show zT 2 from (((25, 63, bg_87), (0, 66, bg_6)), ((0, 456, bg_88), (0, 6, 0x400000000040000000004000000000600000000060000000006))), (4, (0, 0)))
theorem ev_X9_fills_24 : f_X9_fills [zR 1, zI 0, zI 0] h0_X9_fills_24 (zrk (zU) h1_X9_fills_24) = true := by decide +kernel
noncomputable def g_X9_fills_24 {d : Nat} : List zV → zH d → zP d → Bool := zsmy [(0, 0), (1, 3), (1, 22), (1, 24)] [zR 1, zI 0, zI 0] h0_X9_fills_24 (zU) h1_X9_fills_24
theorem mg_X9_fills_24 {d : Nat} : zMet (d := d) X_X9_fills yX9_fills 10 g_X9_fills_24 := zMet_sm m_X9_fills ev_X9_fills_24
end
section
/-! the reference by summaries, by program -/
noncomputable def h0_X9_fills_25 : zH 2 := (show zT 2 from (((25, 63, bg_89), (0, 66, bg_6)), ((0, 456, bg_88), (0, 6, 0x400000000040000000004000000000600000000060000000006))), (4, (0, 0)))
noncomputable def h1_X9_fills_25 : zH 2 := (show zT 2 from (((25, 63, bg_90), (0, 66, bg_6)), ((0, 456, bg_91), (0, 6, 0x600000000040000000006000000000500000000060000000006))), (4, (0, 0)))
theorem ev_X9_fills_25 : f_X9_fills [zR 1, zI 0, zI 0] h0_X9_fills_25 (zrk (zU) h1_X9_fills_25) = true := by decide +kernel
noncomputable def g_X9_fills_25 {d : Nat} : List zV → zH d → zP d → Bool := zsmy [(0, 0), (1, 3), (1, 22), (1, 24)] [zR 1, zI 0, zI 0] h0_X9_fills_25 (zU) h1_X9_fills_25
theorem mg_X9_fills_25 {d : Nat} : zMet (d := d) X_X9_fills yX9_fills 10 g_X9_fills_25 := zMet_sm m_X9_fills ev_X9_fills_25
end
section
/-! the reference by summaries, by program -/
noncomputable def h0_X9_fills_26 : zH 2 := (show zT 2 from (((25, 63, bg_92), (0, 66, bg_6)), ((0, 456, bg_91), (0, 6, 0x600000000040000000006000000000500000000060000000006))), (4, (0, 0)))
noncomputable def h1_X9_fills_26 : zH 2 := (show zT 2 from (((25, 63, bg_93), (0, 66, bg_6)), ((0, 456, bg_94), (0, 6, 0x400000000040000000006000000000500000000060000000006))), (4, (0, 0)))
theorem ev_X9_fills_26 : f_X9_fills [zR 1, zI 0, zI 0] h0_X9_fills_26 (zrk (zU) h1_X9_fills_26) = true := by decide +kernel
noncomputable def g_X9_fills_26 {d : Nat} : List zV → zH d → zP d → Bool := zsmy [(0, 0), (1, 3), (1, 22), (1, 24)] [zR 1, zI 0, zI 0] h0_X9_fills_26 (zU) h1_X9_fills_26
theorem mg_X9_fills_26 {d : Nat} : zMet (d := d) X_X9_fills yX9_fills 10 g_X9_fills_26 := zMet_sm m_X9_fills ev_X9_fills_26
end
section
/-! the reference by summaries, by program -/
noncomputable def h0_X9_fills_27 : zH 2 := (show zT 2 from (((25, 63, bg_95), (0, 66, bg_6)), ((0, 456, bg_94), (0, 6, 0x400000000040000000006000000000500000000060000000006))), (4, (0, 0)))
noncomputable def h1_X9_fills_27 : zH 2 := (show zT 2 from (((25, 63, bg_96), (0, 66, bg_6)), ((0, 456, bg_97), (0, 6, 0x500000000050000000005000000000500000000060000000006))), (4, (0, 0)))
theorem ev_X9_fills_27 : f_X9_fills [zR 1, zI 0, zI 0] h0_X9_fills_27 (zrk (zU) h1_X9_fills_27) = true := by decide +kernel
noncomputable def g_X9_fills_27 {d : Nat} : List zV → zH d → zP d → Bool := zsmy [(0, 0), (1, 3), (1, 22), (1, 24)] [zR 1, zI 0, zI 0] h0_X9_fills_27 (zU) h1_X9_fills_27
theorem mg_X9_fills_27 {d : Nat} : zMet (d := d) X_X9_fills yX9_fills 10 g_X9_fills_27 := zMet_sm m_X9_fills ev_X9_fills_27
end
section
/-! the reference by summaries, by program -/
noncomputable def h0_X9_fills_28 : zH 2 := (show zT 2 from (((25, 63, bg_98), (0, 66, bg_6)), ((0, 456, bg_97), (0, 6, 0x500000000050000000005000000000500000000060000000006))), (4, (0, 0)))
noncomputable def h1_X9_fills_28 : zH 2 := (show zT 2 from (((25, 63, bg_99), (0, 66, bg_6)), ((0, 456, bg_100), (0, 6, 0x600000000060000000006000000000600000000060000000006))), (4, (0, 0)))
theorem ev_X9_fills_28 : f_X9_fills [zR 1, zI 0, zI 0] h0_X9_fills_28 (zrk (zU) h1_X9_fills_28) = true := by decide +kernel
noncomputable def g_X9_fills_28 {d : Nat} : List zV → zH d → zP d → Bool := zsmy [(0, 0), (1, 3), (1, 22), (1, 24)] [zR 1, zI 0, zI 0] h0_X9_fills_28 (zU) h1_X9_fills_28
theorem mg_X9_fills_28 {d : Nat} : zMet (d := d) X_X9_fills yX9_fills 10 g_X9_fills_28 := zMet_sm m_X9_fills ev_X9_fills_28
set_option maxRecDepth 100000 in
noncomputable def gs_X9_fills {d : Nat} : List zV → zH d → zP d → Bool := zwt (hsK (hsF 0 [] 0) (hsF 0 [] 25)) [(2049, g_X9_fills_0), (3073, g_X9_fills_1), (3074, g_X9_fills_2), (4097, g_X9_fills_3), (4098, g_X9_fills_4), (4099, g_X9_fills_5), (5121, g_X9_fills_6), (5122, g_X9_fills_7), (5123, g_X9_fills_8), (5124, g_X9_fills_9), (5125, g_X9_fills_10), (6145, g_X9_fills_11), (6146, g_X9_fills_12), (6147, g_X9_fills_13), (6148, g_X9_fills_14), (6149, g_X9_fills_15), (6150, g_X9_fills_16), (6151, g_X9_fills_17), (7169, g_X9_fills_18), (7170, g_X9_fills_19), (7171, g_X9_fills_20), (7172, g_X9_fills_21), (7173, g_X9_fills_22), (7174, g_X9_fills_23), (7175, g_X9_fills_24), (7176, g_X9_fills_25), (7177, g_X9_fills_26), (7178, g_X9_fills_27), (7179, g_X9_fills_28)]
set_option maxRecDepth 100000 in
theorem mgs_X9_fills {d : Nat} : zMet (d := d) X_X9_fills yX9_fills 10 gs_X9_fills := zMet_wt (hsK_ok hsF_ok hsF_ok) (zwt_c mg_X9_fills_0 (zwt_c mg_X9_fills_1 (zwt_c mg_X9_fills_2 (zwt_c mg_X9_fills_3 (zwt_c mg_X9_fills_4 (zwt_c mg_X9_fills_5 (zwt_c mg_X9_fills_6 (zwt_c mg_X9_fills_7 (zwt_c mg_X9_fills_8 (zwt_c mg_X9_fills_9 (zwt_c mg_X9_fills_10 (zwt_c mg_X9_fills_11 (zwt_c mg_X9_fills_12 (zwt_c mg_X9_fills_13 (zwt_c mg_X9_fills_14 (zwt_c mg_X9_fills_15 (zwt_c mg_X9_fills_16 (zwt_c mg_X9_fills_17 (zwt_c mg_X9_fills_18 (zwt_c mg_X9_fills_19 (zwt_c mg_X9_fills_20 (zwt_c mg_X9_fills_21 (zwt_c mg_X9_fills_22 (zwt_c mg_X9_fills_23 (zwt_c mg_X9_fills_24 (zwt_c mg_X9_fills_25 (zwt_c mg_X9_fills_26 (zwt_c mg_X9_fills_27 (zwt_c mg_X9_fills_28 zwt_n)))))))))))))))))))))))))))))
end
