/-! the reference by summaries, by program -/
noncomputable def h0_X9_charOf_0 : zH 2 := (show zT 2 from (((25, 63, bg_7), (0, 66, bg_1)), ((0, 11, bg_8), (0, 0, 0))), (3, (0, 0)))
noncomputable def h1_X9_charOf_0 : zH 2 := (show zT 2 from (((25, 63, bg_7), (0, 66, bg_1)), ((0, 11, bg_8), (0, 0, 0))), (3, (0, 0)))
theorem ev_X9_charOf_0 : f_X9_charOf [zR 1, zI 95, zI 0, zI 0] h0_X9_charOf_0 (zrk (zI 1) h1_X9_charOf_0) = true := by decide +kernel
noncomputable def g_X9_charOf_0 {d : Nat} : List zV → zH d → zP d → Bool := zsmy [(0, 0), (1, 3), (1, 4)] [zR 1, zI 95, zI 0, zI 0] h0_X9_charOf_0 (zI 1) h1_X9_charOf_0
theorem mg_X9_charOf_0 {d : Nat} : zMet (d := d) X_X9_charOf yX9_charOf 9 g_X9_charOf_0 := zMet_sm m_X9_charOf ev_X9_charOf_0
noncomputable def h0_X9_charOf_1 : zH 2 := (show zT 2 from (((25, 63, bg_7), (0, 66, bg_2)), ((0, 11, bg_9), (0, 0, 0))), (3, (0, 0)))
noncomputable def h1_X9_charOf_1 : zH 2 := (show zT 2 from (((25, 63, bg_7), (0, 66, bg_2)), ((0, 11, bg_9), (0, 0, 0))), (3, (0, 0)))
theorem ev_X9_charOf_1 : f_X9_charOf [zR 1, zI 159, zI 0, zI 0] h0_X9_charOf_1 (zrk (zI 1) h1_X9_charOf_1) = true := by decide +kernel
noncomputable def g_X9_charOf_1 {d : Nat} : List zV → zH d → zP d → Bool := zsmy [(0, 0), (1, 3), (1, 4)] [zR 1, zI 159, zI 0, zI 0] h0_X9_charOf_1 (zI 1) h1_X9_charOf_1
theorem mg_X9_charOf_1 {d : Nat} : zMet (d := d) X_X9_charOf yX9_charOf 9 g_X9_charOf_1 := zMet_sm m_X9_charOf ev_X9_charOf_1
noncomputable def h0_X9_charOf_2 : zH 2 := (show zT 2 from (((25, 63, bg_7), (0, 66, bg_2)), ((0, 11, bg_9), (0, 0, 0))), (3, (0, 0)))
noncomputable def h1_X9_charOf_2 : zH 2 := (show zT 2 from (((25, 63, bg_7), (0, 66, bg_2)), ((0, 11, bg_9), (0, 0, 0))), (3, (0, 0)))
theorem ev_X9_charOf_2 : f_X9_charOf [zR 1, zI 159, zI 1, zI 0] h0_X9_charOf_2 (zrk (zI 1) h1_X9_charOf_2) = true := by decide +kernel
noncomputable def g_X9_charOf_2 {d : Nat} : List zV → zH d → zP d → Bool := zsmy [(0, 0), (1, 3), (1, 4)] [zR 1, zI 159, zI 1, zI 0] h0_X9_charOf_2 (zI 1) h1_X9_charOf_2
theorem mg_X9_charOf_2 {d : Nat} : zMet (d := d) X_X9_charOf yX9_charOf 9 g_X9_charOf_2 := zMet_sm m_X9_charOf ev_X9_charOf_2
noncomputable def h0_X9_charOf_3 : zH 2 := (show zT 2 from (((25, 63, bg_7), (0, 66, bg_2)), ((0, 11, bg_9), (0, 0, 0))), (3, (0, 0)))
noncomputable def h1_X9_charOf_3 : zH 2 := (show zT 2 from (((25, 63, bg_7), (0, 66, bg_2)), ((0, 11, bg_9), (0, 0, 0))), (3, (0, 0)))
theorem ev_X9_charOf_3 : f_X9_charOf [zR 1, zI 111, zI 0, zI 0] h0_X9_charOf_3 (zrk (zI 4294967295) h1_X9_charOf_3) = true := by decide +kernel
noncomputable def g_X9_charOf_3 {d : Nat} : List zV → zH d → zP d → Bool := zsmy [(0, 0), (1, 3), (1, 4)] [zR 1, zI 111, zI 0, zI 0] h0_X9_charOf_3 (zI 4294967295) h1_X9_charOf_3
theorem mg_X9_charOf_3 {d : Nat} : zMet (d := d) X_X9_charOf yX9_charOf 9 g_X9_charOf_3 := zMet_sm m_X9_charOf ev_X9_charOf_3
noncomputable def h0_X9_charOf_4 : zH 2 := (show zT 2 from (((25, 63, bg_7), (0, 66, bg_2)), ((0, 11, bg_9), (0, 0, 0))), (3, (0, 0)))
noncomputable def h1_X9_charOf_4 : zH 2 := (show zT 2 from (((25, 63, bg_7), (0, 66, bg_2)), ((0, 11, bg_9), (0, 0, 0))), (3, (0, 0)))
theorem ev_X9_charOf_4 : f_X9_charOf [zR 1, zI 111, zI 1, zI 0] h0_X9_charOf_4 (zrk (zI 1) h1_X9_charOf_4) = true := by decide +kernel
noncomputable def g_X9_charOf_4 {d : Nat} : List zV → zH d → zP d → Bool := zsmy [(0, 0), (1, 3), (1, 4)] [zR 1, zI 111, zI 1, zI 0] h0_X9_charOf_4 (zI 1) h1_X9_charOf_4
theorem mg_X9_charOf_4 {d : Nat} : zMet (d := d) X_X9_charOf yX9_charOf 9 g_X9_charOf_4 := zMet_sm m_X9_charOf ev_X9_charOf_4
noncomputable def h0_X9_charOf_5 : zH 2 := (show zT 2 from (((25, 63, bg_7), (0, 66, bg_3)), ((0, 11, bg_10), (0, 0, 0))), (3, (0, 0)))
noncomputable def h1_X9_charOf_5 : zH 2 := (show zT 2 from (((25, 63, bg_7), (0, 66, bg_3)), ((0, 11, bg_10), (0, 0, 0))), (3, (0, 0)))
theorem ev_X9_charOf_5 : f_X9_charOf [zR 1, zI 287, zI 0, zI 0] h0_X9_charOf_5 (zrk (zI 1) h1_X9_charOf_5) = true := by decide +kernel
noncomputable def g_X9_charOf_5 {d : Nat} : List zV → zH d → zP d → Bool := zsmy [(0, 0), (1, 3), (1, 4)] [zR 1, zI 287, zI 0, zI 0] h0_X9_charOf_5 (zI 1) h1_X9_charOf_5
theorem mg_X9_charOf_5 {d : Nat} : zMet (d := d) X_X9_charOf yX9_charOf 9 g_X9_charOf_5 := zMet_sm m_X9_charOf ev_X9_charOf_5
noncomputable def h0_X9_charOf_6 : zH 2 := (show zT 2 from (((25, 63, bg_7), (0, 66, bg_3)), ((0, 11, bg_10), (0, 0, 0))), (3, (0, 0)))
noncomputable def h1_X9_charOf_6 : zH 2 := (show zT 2 from (((25, 63, bg_7), (0, 66, bg_3)), ((0, 11, bg_10), (0, 0, 0))), (3, (0, 0)))
theorem ev_X9_charOf_6 : f_X9_charOf [zR 1, zI 287, zI 1, zI 0] h0_X9_charOf_6 (zrk (zI 1) h1_X9_charOf_6) = true := by decide +kernel
noncomputable def g_X9_charOf_6 {d : Nat} : List zV → zH d → zP d → Bool := zsmy [(0, 0), (1, 3), (1, 4)] [zR 1, zI 287, zI 1, zI 0] h0_X9_charOf_6 (zI 1) h1_X9_charOf_6
theorem mg_X9_charOf_6 {d : Nat} : zMet (d := d) X_X9_charOf yX9_charOf 9 g_X9_charOf_6 := zMet_sm m_X9_charOf ev_X9_charOf_6
noncomputable def h0_X9_charOf_7 : zH 2 := (show zT 2 from (((25, 63, bg_7), (0, 66, bg_3)), ((0, 11, bg_10), (0, 0, 0))), (3, (0, 0)))
noncomputable def h1_X9_charOf_7 : zH 2 := (show zT 2 from (((25, 63, bg_7), (0, 66, bg_3)), ((0, 11, bg_10), (0, 0, 0))), (3, (0, 0)))
theorem ev_X9_charOf_7 : f_X9_charOf [zR 1, zI 287, zI 2, zI 0] h0_X9_charOf_7 (zrk (zI 1) h1_X9_charOf_7) = true := by decide +kernel
noncomputable def g_X9_charOf_7 {d : Nat} : List zV → zH d → zP d → Bool := zsmy [(0, 0), (1, 3), (1, 4)] [zR 1, zI 287, zI 2, zI 0] h0_X9_charOf_7 (zI 1) h1_X9_charOf_7
theorem mg_X9_charOf_7 {d : Nat} : zMet (d := d) X_X9_charOf yX9_charOf 9 g_X9_charOf_7 := zMet_sm m_X9_charOf ev_X9_charOf_7
noncomputable def h0_X9_charOf_8 : zH 2 := (show zT 2 from (((25, 63, bg_7), (0, 66, bg_3)), ((0, 11, bg_10), (0, 0, 0))), (3, (0, 0)))
noncomputable def h1_X9_charOf_8 : zH 2 := (show zT 2 from (((25, 63, bg_7), (0, 66, bg_3)), ((0, 11, bg_10), (0, 0, 0))), (3, (0, 0)))
theorem ev_X9_charOf_8 : f_X9_charOf [zR 1, zI 175, zI 0, zI 0] h0_X9_charOf_8 (zrk (zI 4294967295) h1_X9_charOf_8) = true := by decide +kernel
noncomputable def g_X9_charOf_8 {d : Nat} : List zV → zH d → zP d → Bool := zsmy [(0, 0), (1, 3), (1, 4)] [zR 1, zI 175, zI 0, zI 0] h0_X9_charOf_8 (zI 4294967295) h1_X9_charOf_8
theorem mg_X9_charOf_8 {d : Nat} : zMet (d := d) X_X9_charOf yX9_charOf 9 g_X9_charOf_8 := zMet_sm m_X9_charOf ev_X9_charOf_8
noncomputable def h0_X9_charOf_9 : zH 2 := (show zT 2 from (((25, 63, bg_7), (0, 66, bg_3)), ((0, 11, bg_10), (0, 0, 0))), (3, (0, 0)))
noncomputable def h1_X9_charOf_9 : zH 2 := (show zT 2 from (((25, 63, bg_7), (0, 66, bg_3)), ((0, 11, bg_10), (0, 0, 0))), (3, (0, 0)))
theorem ev_X9_charOf_9 : f_X9_charOf [zR 1, zI 175, zI 1, zI 0] h0_X9_charOf_9 (zrk (zI 0) h1_X9_charOf_9) = true := by decide +kernel
noncomputable def g_X9_charOf_9 {d : Nat} : List zV → zH d → zP d → Bool := zsmy [(0, 0), (1, 3), (1, 4)] [zR 1, zI 175, zI 1, zI 0] h0_X9_charOf_9 (zI 0) h1_X9_charOf_9
theorem mg_X9_charOf_9 {d : Nat} : zMet (d := d) X_X9_charOf yX9_charOf 9 g_X9_charOf_9 := zMet_sm m_X9_charOf ev_X9_charOf_9
noncomputable def h0_X9_charOf_10 : zH 2 := (show zT 2 from (((25, 63, bg_7), (0, 66, bg_3)), ((0, 11, bg_10), (0, 0, 0))), (3, (0, 0)))
noncomputable def h1_X9_charOf_10 : zH 2 := (show zT 2 from (((25, 63, bg_7), (0, 66, bg_3)), ((0, 11, bg_10), (0, 0, 0))), (3, (0, 0)))
theorem ev_X9_charOf_10 : f_X9_charOf [zR 1, zI 175, zI 2, zI 0] h0_X9_charOf_10 (zrk (zI 2) h1_X9_charOf_10) = true := by decide +kernel
noncomputable def g_X9_charOf_10 {d : Nat} : List zV → zH d → zP d → Bool := zsmy [(0, 0), (1, 3), (1, 4)] [zR 1, zI 175, zI 2, zI 0] h0_X9_charOf_10 (zI 2) h1_X9_charOf_10
theorem mg_X9_charOf_10 {d : Nat} : zMet (d := d) X_X9_charOf yX9_charOf 9 g_X9_charOf_10 := zMet_sm m_X9_charOf ev_X9_charOf_10
noncomputable def h0_X9_charOf_11 : zH 2 := (show zT 2 from (((25, 63, bg_7), (0, 66, bg_3)), ((0, 11, bg_10), (0, 0, 0))), (3, (0, 0)))
noncomputable def h1_X9_charOf_11 : zH 2 := (show zT 2 from (((25, 63, bg_7), (0, 66, bg_3)), ((0, 11, bg_10), (0, 0, 0))), (3, (0, 0)))
theorem ev_X9_charOf_11 : f_X9_charOf [zR 1, zI 119, zI 0, zI 0] h0_X9_charOf_11 (zrk (zI 1) h1_X9_charOf_11) = true := by decide +kernel
noncomputable def g_X9_charOf_11 {d : Nat} : List zV → zH d → zP d → Bool := zsmy [(0, 0), (1, 3), (1, 4)] [zR 1, zI 119, zI 0, zI 0] h0_X9_charOf_11 (zI 1) h1_X9_charOf_11
theorem mg_X9_charOf_11 {d : Nat} : zMet (d := d) X_X9_charOf yX9_charOf 9 g_X9_charOf_11 := zMet_sm m_X9_charOf ev_X9_charOf_11
noncomputable def h0_X9_charOf_12 : zH 2 := (show zT 2 from (((25, 63, bg_7), (0, 66, bg_3)), ((0, 11, bg_10), (0, 0, 0))), (3, (0, 0)))
noncomputable def h1_X9_charOf_12 : zH 2 := (show zT 2 from (((25, 63, bg_7), (0, 66, bg_3)), ((0, 11, bg_10), (0, 0, 0))), (3, (0, 0)))
theorem ev_X9_charOf_12 : f_X9_charOf [zR 1, zI 119, zI 1, zI 0] h0_X9_charOf_12 (zrk (zI 4294967295) h1_X9_charOf_12) = true := by decide +kernel
noncomputable def g_X9_charOf_12 {d : Nat} : List zV → zH d → zP d → Bool := zsmy [(0, 0), (1, 3), (1, 4)] [zR 1, zI 119, zI 1, zI 0] h0_X9_charOf_12 (zI 4294967295) h1_X9_charOf_12
theorem mg_X9_charOf_12 {d : Nat} : zMet (d := d) X_X9_charOf yX9_charOf 9 g_X9_charOf_12 := zMet_sm m_X9_charOf ev_X9_charOf_12
noncomputable def h0_X9_charOf_13 : zH 2 := (show zT 2 from (((25, 63, bg_7), (0, 66, bg_3)), ((0, 11, bg_10), (0, 0, 0))), (3, (0, 0)))
noncomputable def h1_X9_charOf_13 : zH 2 := (show zT 2 from (((25, 63, bg_7), (0, 66, bg_3)), ((0, 11, bg_10), (0, 0, 0))), (3, (0, 0)))
theorem ev_X9_charOf_13 : f_X9_charOf [zR 1, zI 119, zI 2, zI 0] h0_X9_charOf_13 (zrk (zI 1) h1_X9_charOf_13) = true := by decide +kernel
noncomputable def g_X9_charOf_13 {d : Nat} : List zV → zH d → zP d → Bool := zsmy [(0, 0), (1, 3), (1, 4)] [zR 1, zI 119, zI 2, zI 0] h0_X9_charOf_13 (zI 1) h1_X9_charOf_13
theorem mg_X9_charOf_13 {d : Nat} : zMet (d := d) X_X9_charOf yX9_charOf 9 g_X9_charOf_13 := zMet_sm m_X9_charOf ev_X9_charOf_13
noncomputable def h0_X9_charOf_14 : zH 2 := (show zT 2 from (((25, 63, bg_7), (0, 66, bg_4)), ((0, 11, bg_11), (0, 0, 0))), (3, (0, 0)))
noncomputable def h1_X9_charOf_14 : zH 2 := (show zT 2 from (((25, 63, bg_7), (0, 66, bg_4)), ((0, 11, bg_11), (0, 0, 0))), (3, (0, 0)))
theorem ev_X9_charOf_14 : f_X9_charOf [zR 1, zI 543, zI 0, zI 0] h0_X9_charOf_14 (zrk (zI 1) h1_X9_charOf_14) = true := by decide +kernel
noncomputable def g_X9_charOf_14 {d : Nat} : List zV → zH d → zP d → Bool := zsmy [(0, 0), (1, 3), (1, 4)] [zR 1, zI 543, zI 0, zI 0] h0_X9_charOf_14 (zI 1) h1_X9_charOf_14
theorem mg_X9_charOf_14 {d : Nat} : zMet (d := d) X_X9_charOf yX9_charOf 9 g_X9_charOf_14 := zMet_sm m_X9_charOf ev_X9_charOf_14
noncomputable def h0_X9_charOf_15 : zH 2 := (show zT 2 from (((25, 63, bg_7), (0, 66, bg_4)), ((0, 11, bg_11), (0, 0, 0))), (3, (0, 0)))
noncomputable def h1_X9_charOf_15 : zH 2 := (show zT 2 from (((25, 63, bg_7), (0, 66, bg_4)), ((0, 11, bg_11), (0, 0, 0))), (3, (0, 0)))
theorem ev_X9_charOf_15 : f_X9_charOf [zR 1, zI 543, zI 1, zI 0] h0_X9_charOf_15 (zrk (zI 1) h1_X9_charOf_15) = true := by decide +kernel
noncomputable def g_X9_charOf_15 {d : Nat} : List zV → zH d → zP d → Bool := zsmy [(0, 0), (1, 3), (1, 4)] [zR 1, zI 543, zI 1, zI 0] h0_X9_charOf_15 (zI 1) h1_X9_charOf_15
theorem mg_X9_charOf_15 {d : Nat} : zMet (d := d) X_X9_charOf yX9_charOf 9 g_X9_charOf_15 := zMet_sm m_X9_charOf ev_X9_charOf_15
noncomputable def h0_X9_charOf_16 : zH 2 := (show zT 2 from (((25, 63, bg_7), (0, 66, bg_4)), ((0, 11, bg_11), (0, 0, 0))), (3, (0, 0)))
noncomputable def h1_X9_charOf_16 : zH 2 := (show zT 2 from (((25, 63, bg_7), (0, 66, bg_4)), ((0, 11, bg_11), (0, 0, 0))), (3, (0, 0)))
theorem ev_X9_charOf_16 : f_X9_charOf [zR 1, zI 543, zI 2, zI 0] h0_X9_charOf_16 (zrk (zI 1) h1_X9_charOf_16) = true := by decide +kernel
noncomputable def g_X9_charOf_16 {d : Nat} : List zV → zH d → zP d → Bool := zsmy [(0, 0), (1, 3), (1, 4)] [zR 1, zI 543, zI 2, zI 0] h0_X9_charOf_16 (zI 1) h1_X9_charOf_16
theorem mg_X9_charOf_16 {d : Nat} : zMet (d := d) X_X9_charOf yX9_charOf 9 g_X9_charOf_16 := zMet_sm m_X9_charOf ev_X9_charOf_16
noncomputable def h0_X9_charOf_17 : zH 2 := (show zT 2 from (((25, 63, bg_7), (0, 66, bg_4)), ((0, 11, bg_11), (0, 0, 0))), (3, (0, 0)))
noncomputable def h1_X9_charOf_17 : zH 2 := (show zT 2 from (((25, 63, bg_7), (0, 66, bg_4)), ((0, 11, bg_11), (0, 0, 0))), (3, (0, 0)))
theorem ev_X9_charOf_17 : f_X9_charOf [zR 1, zI 543, zI 3, zI 0] h0_X9_charOf_17 (zrk (zI 1) h1_X9_charOf_17) = true := by decide +kernel
noncomputable def g_X9_charOf_17 {d : Nat} : List zV → zH d → zP d → Bool := zsmy [(0, 0), (1, 3), (1, 4)] [zR 1, zI 543, zI 3, zI 0] h0_X9_charOf_17 (zI 1) h1_X9_charOf_17
theorem mg_X9_charOf_17 {d : Nat} : zMet (d := d) X_X9_charOf yX9_charOf 9 g_X9_charOf_17 := zMet_sm m_X9_charOf ev_X9_charOf_17
noncomputable def h0_X9_charOf_18 : zH 2 := (show zT 2 from (((25, 63, bg_7), (0, 66, bg_4)), ((0, 11, bg_11), (0, 0, 0))), (3, (0, 0)))
noncomputable def h1_X9_charOf_18 : zH 2 := (show zT 2 from (((25, 63, bg_7), (0, 66, bg_4)), ((0, 11, bg_11), (0, 0, 0))), (3, (0, 0)))
theorem ev_X9_charOf_18 : f_X9_charOf [zR 1, zI 543, zI 4, zI 0] h0_X9_charOf_18 (zrk (zI 1) h1_X9_charOf_18) = true := by decide +kernel
noncomputable def g_X9_charOf_18 {d : Nat} : List zV → zH d → zP d → Bool := zsmy [(0, 0), (1, 3), (1, 4)] [zR 1, zI 543, zI 4, zI 0] h0_X9_charOf_18 (zI 1) h1_X9_charOf_18
theorem mg_X9_charOf_18 {d : Nat} : zMet (d := d) X_X9_charOf yX9_charOf 9 g_X9_charOf_18 := zMet_sm m_X9_charOf ev_X9_charOf_18
noncomputable def h0_X9_charOf_19 : zH 2 := (show zT 2 from (((25, 63, bg_7), (0, 66, bg_4)), ((0, 11, bg_11), (0, 0, 0))), (3, (0, 0)))
noncomputable def h1_X9_charOf_19 : zH 2 := (show zT 2 from (((25, 63, bg_7), (0, 66, bg_4)), ((0, 11, bg_11), (0, 0, 0))), (3, (0, 0)))
theorem ev_X9_charOf_19 : f_X9_charOf [zR 1, zI 303, zI 0, zI 0] h0_X9_charOf_19 (zrk (zI 4294967295) h1_X9_charOf_19) = true := by decide +kernel
noncomputable def g_X9_charOf_19 {d : Nat} : List zV → zH d → zP d → Bool := zsmy [(0, 0), (1, 3), (1, 4)] [zR 1, zI 303, zI 0, zI 0] h0_X9_charOf_19 (zI 4294967295) h1_X9_charOf_19
theorem mg_X9_charOf_19 {d : Nat} : zMet (d := d) X_X9_charOf yX9_charOf 9 g_X9_charOf_19 := zMet_sm m_X9_charOf ev_X9_charOf_19
noncomputable def h0_X9_charOf_20 : zH 2 := (show zT 2 from (((25, 63, bg_7), (0, 66, bg_4)), ((0, 11, bg_11), (0, 0, 0))), (3, (0, 0)))
noncomputable def h1_X9_charOf_20 : zH 2 := (show zT 2 from (((25, 63, bg_7), (0, 66, bg_4)), ((0, 11, bg_11), (0, 0, 0))), (3, (0, 0)))
theorem ev_X9_charOf_20 : f_X9_charOf [zR 1, zI 303, zI 1, zI 0] h0_X9_charOf_20 (zrk (zI 0) h1_X9_charOf_20) = true := by decide +kernel
noncomputable def g_X9_charOf_20 {d : Nat} : List zV → zH d → zP d → Bool := zsmy [(0, 0), (1, 3), (1, 4)] [zR 1, zI 303, zI 1, zI 0] h0_X9_charOf_20 (zI 0) h1_X9_charOf_20
theorem mg_X9_charOf_20 {d : Nat} : zMet (d := d) X_X9_charOf yX9_charOf 9 g_X9_charOf_20 := zMet_sm m_X9_charOf ev_X9_charOf_20
noncomputable def h0_X9_charOf_21 : zH 2 := (show zT 2 from (((25, 63, bg_7), (0, 66, bg_4)), ((0, 11, bg_11), (0, 0, 0))), (3, (0, 0)))
noncomputable def h1_X9_charOf_21 : zH 2 := (show zT 2 from (((25, 63, bg_7), (0, 66, bg_4)), ((0, 11, bg_11), (0, 0, 0))), (3, (0, 0)))
theorem ev_X9_charOf_21 : f_X9_charOf [zR 1, zI 303, zI 2, zI 0] h0_X9_charOf_21 (zrk (zI 4294967295) h1_X9_charOf_21) = true := by decide +kernel
noncomputable def g_X9_charOf_21 {d : Nat} : List zV → zH d → zP d → Bool := zsmy [(0, 0), (1, 3), (1, 4)] [zR 1, zI 303, zI 2, zI 0] h0_X9_charOf_21 (zI 4294967295) h1_X9_charOf_21
theorem mg_X9_charOf_21 {d : Nat} : zMet (d := d) X_X9_charOf yX9_charOf 9 g_X9_charOf_21 := zMet_sm m_X9_charOf ev_X9_charOf_21
noncomputable def h0_X9_charOf_22 : zH 2 := (show zT 2 from (((25, 63, bg_7), (0, 66, bg_4)), ((0, 11, bg_11), (0, 0, 0))), (3, (0, 0)))
noncomputable def h1_X9_charOf_22 : zH 2 := (show zT 2 from (((25, 63, bg_7), (0, 66, bg_4)), ((0, 11, bg_11), (0, 0, 0))), (3, (0, 0)))
theorem ev_X9_charOf_22 : f_X9_charOf [zR 1, zI 303, zI 3, zI 0] h0_X9_charOf_22 (zrk (zI 1) h1_X9_charOf_22) = true := by decide +kernel
noncomputable def g_X9_charOf_22 {d : Nat} : List zV → zH d → zP d → Bool := zsmy [(0, 0), (1, 3), (1, 4)] [zR 1, zI 303, zI 3, zI 0] h0_X9_charOf_22 (zI 1) h1_X9_charOf_22
theorem mg_X9_charOf_22 {d : Nat} : zMet (d := d) X_X9_charOf yX9_charOf 9 g_X9_charOf_22 := zMet_sm m_X9_charOf ev_X9_charOf_22
noncomputable def h0_X9_charOf_23 : zH 2 := (show zT 2 from (((25, 63, bg_7), (0, 66, bg_4)), ((0, 11, bg_11), (0, 0, 0))), (3, (0, 0)))
noncomputable def h1_X9_charOf_23 : zH 2 := (show zT 2 from (((25, 63, bg_7), (0, 66, bg_4)), ((0, 11, bg_11), (0, 0, 0))), (3, (0, 0)))
theorem ev_X9_charOf_23 : f_X9_charOf [zR 1, zI 303, zI 4, zI 0] h0_X9_charOf_23 (zrk (zI 3) h1_X9_charOf_23) = true := by decide +kernel
noncomputable def g_X9_charOf_23 {d : Nat} : List zV → zH d → zP d → Bool := zsmy [(0, 0), (1, 3), (1, 4)] [zR 1, zI 303, zI 4, zI 0] h0_X9_charOf_23 (zI 3) h1_X9_charOf_23
theorem mg_X9_charOf_23 {d : Nat} : zMet (d := d) X_X9_charOf yX9_charOf 9 g_X9_charOf_23 := zMet_sm m_X9_charOf ev_X9_charOf_23
noncomputable def h0_X9_charOf_24 : zH 2 := (show zT 2 from (((25, 63, bg_7), (0, 66, bg_4)), ((0, 11, bg_11), (0, 0, 0))), (3, (0, 0)))
noncomputable def h1_X9_charOf_24 : zH 2 := (show zT 2 from (((25, 63, bg_7), (0, 66, bg_4)), ((0, 11, bg_11), (0, 0, 0))), (3, (0, 0)))
theorem ev_X9_charOf_24 : f_X9_charOf [zR 1, zI 207, zI 0, zI 0] h0_X9_charOf_24 (zrk (zI 0) h1_X9_charOf_24) = true := by decide +kernel
noncomputable def g_X9_charOf_24 {d : Nat} : List zV → zH d → zP d → Bool := zsmy [(0, 0), (1, 3), (1, 4)] [zR 1, zI 207, zI 0, zI 0] h0_X9_charOf_24 (zI 0) h1_X9_charOf_24
theorem mg_X9_charOf_24 {d : Nat} : zMet (d := d) X_X9_charOf yX9_charOf 9 g_X9_charOf_24 := zMet_sm m_X9_charOf ev_X9_charOf_24
noncomputable def h0_X9_charOf_25 : zH 2 := (show zT 2 from (((25, 63, bg_7), (0, 66, bg_4)), ((0, 11, bg_11), (0, 0, 0))), (3, (0, 0)))
noncomputable def h1_X9_charOf_25 : zH 2 := (show zT 2 from (((25, 63, bg_7), (0, 66, bg_4)), ((0, 11, bg_11), (0, 0, 0))), (3, (0, 0)))
theorem ev_X9_charOf_25 : f_X9_charOf [zR 1, zI 207, zI 1, zI 0] h0_X9_charOf_25 (zrk (zI 4294967295) h1_X9_charOf_25) = true := by decide +kernel
noncomputable def g_X9_charOf_25 {d : Nat} : List zV → zH d → zP d → Bool := zsmy [(0, 0), (1, 3), (1, 4)] [zR 1, zI 207, zI 1, zI 0] h0_X9_charOf_25 (zI 4294967295) h1_X9_charOf_25
theorem mg_X9_charOf_25 {d : Nat} : zMet (d := d) X_X9_charOf yX9_charOf 9 g_X9_charOf_25 := zMet_sm m_X9_charOf ev_X9_charOf_25
noncomputable def h0_X9_charOf_26 : zH 2 := (show zT 2 from (((25, 63, bg_7), (0, 66, bg_4)), ((0, 11, bg_11), (0, 0, 0))), (3, (0, 0)))
noncomputable def h1_X9_charOf_26 : zH 2 := (show zT 2 from (((25, 63, bg_7), (0, 66, bg_4)), ((0, 11, bg_11), (0, 0, 0))), (3, (0, 0)))
theorem ev_X9_charOf_26 : f_X9_charOf [zR 1, zI 207, zI 2, zI 0] h0_X9_charOf_26 (zrk (zI 2) h1_X9_charOf_26) = true := by decide +kernel
noncomputable def g_X9_charOf_26 {d : Nat} : List zV → zH d → zP d → Bool := zsmy [(0, 0), (1, 3), (1, 4)] [zR 1, zI 207, zI 2, zI 0] h0_X9_charOf_26 (zI 2) h1_X9_charOf_26
theorem mg_X9_charOf_26 {d : Nat} : zMet (d := d) X_X9_charOf yX9_charOf 9 g_X9_charOf_26 := zMet_sm m_X9_charOf ev_X9_charOf_26
noncomputable def h0_X9_charOf_27 : zH 2 := (show zT 2 from (((25, 63, bg_7), (0, 66, bg_4)), ((0, 11, bg_11), (0, 0, 0))), (3, (0, 0)))
noncomputable def h1_X9_charOf_27 : zH 2 := (show zT 2 from (((25, 63, bg_7), (0, 66, bg_4)), ((0, 11, bg_11), (0, 0, 0))), (3, (0, 0)))
theorem ev_X9_charOf_27 : f_X9_charOf [zR 1, zI 207, zI 3, zI 0] h0_X9_charOf_27 (zrk (zI 0) h1_X9_charOf_27) = true := by decide +kernel
noncomputable def g_X9_charOf_27 {d : Nat} : List zV → zH d → zP d → Bool := zsmy [(0, 0), (1, 3), (1, 4)] [zR 1, zI 207, zI 3, zI 0] h0_X9_charOf_27 (zI 0) h1_X9_charOf_27
theorem mg_X9_charOf_27 {d : Nat} : zMet (d := d) X_X9_charOf yX9_charOf 9 g_X9_charOf_27 := zMet_sm m_X9_charOf ev_X9_charOf_27
noncomputable def h0_X9_charOf_28 : zH 2 := (show zT 2 from (((25, 63, bg_7), (0, 66, bg_4)), ((0, 11, bg_11), (0, 0, 0))), (3, (0, 0)))
noncomputable def h1_X9_charOf_28 : zH 2 := (show zT 2 from (((25, 63, bg_7), (0, 66, bg_4)), ((0, 11, bg_11), (0, 0, 0))), (3, (0, 0)))
theorem ev_X9_charOf_28 : f_X9_charOf [zR 1, zI 207, zI 4, zI 0] h0_X9_charOf_28 (zrk (zI 2) h1_X9_charOf_28) = true := by decide +kernel
noncomputable def g_X9_charOf_28 {d : Nat} : List zV → zH d → zP d → Bool := zsmy [(0, 0), (1, 3), (1, 4)] [zR 1, zI 207, zI 4, zI 0] h0_X9_charOf_28 (zI 2) h1_X9_charOf_28
theorem mg_X9_charOf_28 {d : Nat} : zMet (d := d) X_X9_charOf yX9_charOf 9 g_X9_charOf_28 := zMet_sm m_X9_charOf ev_X9_charOf_28
noncomputable def h0_X9_charOf_29 : zH 2 := (show zT 2 from (((25, 63, bg_7), (0, 66, bg_4)), ((0, 11, bg_11), (0, 0, 0))), (3, (0, 0)))
noncomputable def h1_X9_charOf_29 : zH 2 := (show zT 2 from (((25, 63, bg_7), (0, 66, bg_4)), ((0, 11, bg_11), (0, 0, 0))), (3, (0, 0)))
theorem ev_X9_charOf_29 : f_X9_charOf [zR 1, zI 183, zI 0, zI 0] h0_X9_charOf_29 (zrk (zI 1) h1_X9_charOf_29) = true := by decide +kernel
noncomputable def g_X9_charOf_29 {d : Nat} : List zV → zH d → zP d → Bool := zsmy [(0, 0), (1, 3), (1, 4)] [zR 1, zI 183, zI 0, zI 0] h0_X9_charOf_29 (zI 1) h1_X9_charOf_29
theorem mg_X9_charOf_29 {d : Nat} : zMet (d := d) X_X9_charOf yX9_charOf 9 g_X9_charOf_29 := zMet_sm m_X9_charOf ev_X9_charOf_29
noncomputable def h0_X9_charOf_30 : zH 2 := (show zT 2 from (((25, 63, bg_7), (0, 66, bg_4)), ((0, 11, bg_11), (0, 0, 0))), (3, (0, 0)))
noncomputable def h1_X9_charOf_30 : zH 2 := (show zT 2 from (((25, 63, bg_7), (0, 66, bg_4)), ((0, 11, bg_11), (0, 0, 0))), (3, (0, 0)))
theorem ev_X9_charOf_30 : f_X9_charOf [zR 1, zI 183, zI 1, zI 0] h0_X9_charOf_30 (zrk (zI 0) h1_X9_charOf_30) = true := by decide +kernel
noncomputable def g_X9_charOf_30 {d : Nat} : List zV → zH d → zP d → Bool := zsmy [(0, 0), (1, 3), (1, 4)] [zR 1, zI 183, zI 1, zI 0] h0_X9_charOf_30 (zI 0) h1_X9_charOf_30
theorem mg_X9_charOf_30 {d : Nat} : zMet (d := d) X_X9_charOf yX9_charOf 9 g_X9_charOf_30 := zMet_sm m_X9_charOf ev_X9_charOf_30
noncomputable def h0_X9_charOf_31 : zH 2 := (show zT 2 from (((25, 63, bg_7), (0, 66, bg_4)), ((0, 11, bg_11), (0, 0, 0))), (3, (0, 0)))
noncomputable def h1_X9_charOf_31 : zH 2 := (show zT 2 from (((25, 63, bg_7), (0, 66, bg_4)), ((0, 11, bg_11), (0, 0, 0))), (3, (0, 0)))
theorem ev_X9_charOf_31 : f_X9_charOf [zR 1, zI 183, zI 2, zI 0] h0_X9_charOf_31 (zrk (zI 4294967295) h1_X9_charOf_31) = true := by decide +kernel
noncomputable def g_X9_charOf_31 {d : Nat} : List zV → zH d → zP d → Bool := zsmy [(0, 0), (1, 3), (1, 4)] [zR 1, zI 183, zI 2, zI 0] h0_X9_charOf_31 (zI 4294967295) h1_X9_charOf_31
theorem mg_X9_charOf_31 {d : Nat} : zMet (d := d) X_X9_charOf yX9_charOf 9 g_X9_charOf_31 := zMet_sm m_X9_charOf ev_X9_charOf_31
noncomputable def h0_X9_charOf_32 : zH 2 := (show zT 2 from (((25, 63, bg_7), (0, 66, bg_4)), ((0, 11, bg_11), (0, 0, 0))), (3, (0, 0)))
noncomputable def h1_X9_charOf_32 : zH 2 := (show zT 2 from (((25, 63, bg_7), (0, 66, bg_4)), ((0, 11, bg_11), (0, 0, 0))), (3, (0, 0)))
theorem ev_X9_charOf_32 : f_X9_charOf [zR 1, zI 183, zI 3, zI 0] h0_X9_charOf_32 (zrk (zI 4294967295) h1_X9_charOf_32) = true := by decide +kernel
noncomputable def g_X9_charOf_32 {d : Nat} : List zV → zH d → zP d → Bool := zsmy [(0, 0), (1, 3), (1, 4)] [zR 1, zI 183, zI 3, zI 0] h0_X9_charOf_32 (zI 4294967295) h1_X9_charOf_32
theorem mg_X9_charOf_32 {d : Nat} : zMet (d := d) X_X9_charOf yX9_charOf 9 g_X9_charOf_32 := zMet_sm m_X9_charOf ev_X9_charOf_32
noncomputable def h0_X9_charOf_33 : zH 2 := (show zT 2 from (((25, 63, bg_7), (0, 66, bg_4)), ((0, 11, bg_11), (0, 0, 0))), (3, (0, 0)))
noncomputable def h1_X9_charOf_33 : zH 2 := (show zT 2 from (((25, 63, bg_7), (0, 66, bg_4)), ((0, 11, bg_11), (0, 0, 0))), (3, (0, 0)))
theorem ev_X9_charOf_33 : f_X9_charOf [zR 1, zI 183, zI 4, zI 0] h0_X9_charOf_33 (zrk (zI 3) h1_X9_charOf_33) = true := by decide +kernel
noncomputable def g_X9_charOf_33 {d : Nat} : List zV → zH d → zP d → Bool := zsmy [(0, 0), (1, 3), (1, 4)] [zR 1, zI 183, zI 4, zI 0] h0_X9_charOf_33 (zI 3) h1_X9_charOf_33
theorem mg_X9_charOf_33 {d : Nat} : zMet (d := d) X_X9_charOf yX9_charOf 9 g_X9_charOf_33 := zMet_sm m_X9_charOf ev_X9_charOf_33
noncomputable def h0_X9_charOf_34 : zH 2 := (show zT 2 from (((25, 63, bg_7), (0, 66, bg_4)), ((0, 11, bg_11), (0, 0, 0))), (3, (0, 0)))
noncomputable def h1_X9_charOf_34 : zH 2 := (show zT 2 from (((25, 63, bg_7), (0, 66, bg_4)), ((0, 11, bg_11), (0, 0, 0))), (3, (0, 0)))
theorem ev_X9_charOf_34 : f_X9_charOf [zR 1, zI 123, zI 0, zI 0] h0_X9_charOf_34 (zrk (zI 4294967295) h1_X9_charOf_34) = true := by decide +kernel
noncomputable def g_X9_charOf_34 {d : Nat} : List zV → zH d → zP d → Bool := zsmy [(0, 0), (1, 3), (1, 4)] [zR 1, zI 123, zI 0, zI 0] h0_X9_charOf_34 (zI 4294967295) h1_X9_charOf_34
theorem mg_X9_charOf_34 {d : Nat} : zMet (d := d) X_X9_charOf yX9_charOf 9 g_X9_charOf_34 := zMet_sm m_X9_charOf ev_X9_charOf_34
noncomputable def h0_X9_charOf_35 : zH 2 := (show zT 2 from (((25, 63, bg_7), (0, 66, bg_4)), ((0, 11, bg_11), (0, 0, 0))), (3, (0, 0)))
noncomputable def h1_X9_charOf_35 : zH 2 := (show zT 2 from (((25, 63, bg_7), (0, 66, bg_4)), ((0, 11, bg_11), (0, 0, 0))), (3, (0, 0)))
theorem ev_X9_charOf_35 : f_X9_charOf [zR 1, zI 123, zI 1, zI 0] h0_X9_charOf_35 (zrk (zI 1) h1_X9_charOf_35) = true := by decide +kernel
noncomputable def g_X9_charOf_35 {d : Nat} : List zV → zH d → zP d → Bool := zsmy [(0, 0), (1, 3), (1, 4)] [zR 1, zI 123, zI 1, zI 0] h0_X9_charOf_35 (zI 1) h1_X9_charOf_35
theorem mg_X9_charOf_35 {d : Nat} : zMet (d := d) X_X9_charOf yX9_charOf 9 g_X9_charOf_35 := zMet_sm m_X9_charOf ev_X9_charOf_35
noncomputable def h0_X9_charOf_36 : zH 2 := (show zT 2 from (((25, 63, bg_7), (0, 66, bg_4)), ((0, 11, bg_11), (0, 0, 0))), (3, (0, 0)))
noncomputable def h1_X9_charOf_36 : zH 2 := (show zT 2 from (((25, 63, bg_7), (0, 66, bg_4)), ((0, 11, bg_11), (0, 0, 0))), (3, (0, 0)))
theorem ev_X9_charOf_36 : f_X9_charOf [zR 1, zI 123, zI 2, zI 0] h0_X9_charOf_36 (zrk (zI 1) h1_X9_charOf_36) = true := by decide +kernel
noncomputable def g_X9_charOf_36 {d : Nat} : List zV → zH d → zP d → Bool := zsmy [(0, 0), (1, 3), (1, 4)] [zR 1, zI 123, zI 2, zI 0] h0_X9_charOf_36 (zI 1) h1_X9_charOf_36
theorem mg_X9_charOf_36 {d : Nat} : zMet (d := d) X_X9_charOf yX9_charOf 9 g_X9_charOf_36 := zMet_sm m_X9_charOf ev_X9_charOf_36
noncomputable def h0_X9_charOf_37 : zH 2 := (show zT 2 from (((25, 63, bg_7), (0, 66, bg_4)), ((0, 11, bg_11), (0, 0, 0))), (3, (0, 0)))
noncomputable def h1_X9_charOf_37 : zH 2 := (show zT 2 from (((25, 63, bg_7), (0, 66, bg_4)), ((0, 11, bg_11), (0, 0, 0))), (3, (0, 0)))
theorem ev_X9_charOf_37 : f_X9_charOf [zR 1, zI 123, zI 3, zI 0] h0_X9_charOf_37 (zrk (zI 4294967295) h1_X9_charOf_37) = true := by decide +kernel
noncomputable def g_X9_charOf_37 {d : Nat} : List zV → zH d → zP d → Bool := zsmy [(0, 0), (1, 3), (1, 4)] [zR 1, zI 123, zI 3, zI 0] h0_X9_charOf_37 (zI 4294967295) h1_X9_charOf_37
theorem mg_X9_charOf_37 {d : Nat} : zMet (d := d) X_X9_charOf yX9_charOf 9 g_X9_charOf_37 := zMet_sm m_X9_charOf ev_X9_charOf_37
noncomputable def h0_X9_charOf_38 : zH 2 := (show zT 2 from (((25, 63, bg_7), (0, 66, bg_4)), ((0, 11, bg_11), (0, 0, 0))), (3, (0, 0)))
noncomputable def h1_X9_charOf_38 : zH 2 := (show zT 2 from (((25, 63, bg_7), (0, 66, bg_4)), ((0, 11, bg_11), (0, 0, 0))), (3, (0, 0)))
theorem ev_X9_charOf_38 : f_X9_charOf [zR 1, zI 123, zI 4, zI 0] h0_X9_charOf_38 (zrk (zI 1) h1_X9_charOf_38) = true := by decide +kernel
noncomputable def g_X9_charOf_38 {d : Nat} : List zV → zH d → zP d → Bool := zsmy [(0, 0), (1, 3), (1, 4)] [zR 1, zI 123, zI 4, zI 0] h0_X9_charOf_38 (zI 1) h1_X9_charOf_38
theorem mg_X9_charOf_38 {d : Nat} : zMet (d := d) X_X9_charOf yX9_charOf 9 g_X9_charOf_38 := zMet_sm m_X9_charOf ev_X9_charOf_38
noncomputable def h0_X9_charOf_39 : zH 2 := (show zT 2 from (((25, 63, bg_7), (0, 66, bg_5)), ((0, 11, bg_12), (0, 0, 0))), (3, (0, 0)))
noncomputable def h1_X9_charOf_39 : zH 2 := (show zT 2 from (((25, 63, bg_7), (0, 66, bg_5)), ((0, 11, bg_12), (0, 0, 0))), (3, (0, 0)))
theorem ev_X9_charOf_39 : f_X9_charOf [zR 1, zI 1055, zI 0, zI 0] h0_X9_charOf_39 (zrk (zI 1) h1_X9_charOf_39) = true := by decide +kernel
noncomputable def g_X9_charOf_39 {d : Nat} : List zV → zH d → zP d → Bool := zsmy [(0, 0), (1, 3), (1, 4)] [zR 1, zI 1055, zI 0, zI 0] h0_X9_charOf_39 (zI 1) h1_X9_charOf_39
theorem mg_X9_charOf_39 {d : Nat} : zMet (d := d) X_X9_charOf yX9_charOf 9 g_X9_charOf_39 := zMet_sm m_X9_charOf ev_X9_charOf_39
noncomputable def h0_X9_charOf_40 : zH 2 := (show zT 2 from (((25, 63, bg_7), (0, 66, bg_5)), ((0, 11, bg_12), (0, 0, 0))), (3, (0, 0)))
noncomputable def h1_X9_charOf_40 : zH 2 := (show zT 2 from (((25, 63, bg_7), (0, 66, bg_5)), ((0, 11, bg_12), (0, 0, 0))), (3, (0, 0)))
theorem ev_X9_charOf_40 : f_X9_charOf [zR 1, zI 1055, zI 1, zI 0] h0_X9_charOf_40 (zrk (zI 1) h1_X9_charOf_40) = true := by decide +kernel
noncomputable def g_X9_charOf_40 {d : Nat} : List zV → zH d → zP d → Bool := zsmy [(0, 0), (1, 3), (1, 4)] [zR 1, zI 1055, zI 1, zI 0] h0_X9_charOf_40 (zI 1) h1_X9_charOf_40
theorem mg_X9_charOf_40 {d : Nat} : zMet (d := d) X_X9_charOf yX9_charOf 9 g_X9_charOf_40 := zMet_sm m_X9_charOf ev_X9_charOf_40
noncomputable def h0_X9_charOf_41 : zH 2 := (show zT 2 from (((25, 63, bg_7), (0, 66, bg_5)), ((0, 11, bg_12), (0, 0, 0))), (3, (0, 0)))
noncomputable def h1_X9_charOf_41 : zH 2 := (show zT 2 from (((25, 63, bg_7), (0, 66, bg_5)), ((0, 11, bg_12), (0, 0, 0))), (3, (0, 0)))
theorem ev_X9_charOf_41 : f_X9_charOf [zR 1, zI 1055, zI 2, zI 0] h0_X9_charOf_41 (zrk (zI 1) h1_X9_charOf_41) = true := by decide +kernel
noncomputable def g_X9_charOf_41 {d : Nat} : List zV → zH d → zP d → Bool := zsmy [(0, 0), (1, 3), (1, 4)] [zR 1, zI 1055, zI 2, zI 0] h0_X9_charOf_41 (zI 1) h1_X9_charOf_41
theorem mg_X9_charOf_41 {d : Nat} : zMet (d := d) X_X9_charOf yX9_charOf 9 g_X9_charOf_41 := zMet_sm m_X9_charOf ev_X9_charOf_41
noncomputable def h0_X9_charOf_42 : zH 2 := (show zT 2 from (((25, 63, bg_7), (0, 66, bg_5)), ((0, 11, bg_12), (0, 0, 0))), (3, (0, 0)))
noncomputable def h1_X9_charOf_42 : zH 2 := (show zT 2 from (((25, 63, bg_7), (0, 66, bg_5)), ((0, 11, bg_12), (0, 0, 0))), (3, (0, 0)))
theorem ev_X9_charOf_42 : f_X9_charOf [zR 1, zI 1055, zI 3, zI 0] h0_X9_charOf_42 (zrk (zI 1) h1_X9_charOf_42) = true := by decide +kernel
noncomputable def g_X9_charOf_42 {d : Nat} : List zV → zH d → zP d → Bool := zsmy [(0, 0), (1, 3), (1, 4)] [zR 1, zI 1055, zI 3, zI 0] h0_X9_charOf_42 (zI 1) h1_X9_charOf_42
theorem mg_X9_charOf_42 {d : Nat} : zMet (d := d) X_X9_charOf yX9_charOf 9 g_X9_charOf_42 := zMet_sm m_X9_charOf ev_X9_charOf_42
noncomputable def h0_X9_charOf_43 : zH 2 := (show zT 2 from (((25, 63, bg_7), (0, 66, bg_5)), ((0, 11, bg_12), (0, 0, 0))), (3, (0, 0)))
noncomputable def h1_X9_charOf_43 : zH 2 := (show zT 2 from (((25, 63, bg_7), (0, 66, bg_5)), ((0, 11, bg_12), (0, 0, 0))), (3, (0, 0)))
theorem ev_X9_charOf_43 : f_X9_charOf [zR 1, zI 1055, zI 4, zI 0] h0_X9_charOf_43 (zrk (zI 1) h1_X9_charOf_43) = true := by decide +kernel
noncomputable def g_X9_charOf_43 {d : Nat} : List zV → zH d → zP d → Bool := zsmy [(0, 0), (1, 3), (1, 4)] [zR 1, zI 1055, zI 4, zI 0] h0_X9_charOf_43 (zI 1) h1_X9_charOf_43
theorem mg_X9_charOf_43 {d : Nat} : zMet (d := d) X_X9_charOf yX9_charOf 9 g_X9_charOf_43 := zMet_sm m_X9_charOf ev_X9_charOf_43
noncomputable def h0_X9_charOf_44 : zH 2 := (show zT 2 from (((25, 63, bg_7), (0, 66, bg_5)), ((0, 11, bg_12), (0, 0, 0))), (3, (0, 0)))
noncomputable def h1_X9_charOf_44 : zH 2 := (show zT 2 from (((25, 63, bg_7), (0, 66, bg_5)), ((0, 11, bg_12), (0, 0, 0))), (3, (0, 0)))
theorem ev_X9_charOf_44 : f_X9_charOf [zR 1, zI 1055, zI 5, zI 0] h0_X9_charOf_44 (zrk (zI 1) h1_X9_charOf_44) = true := by decide +kernel
noncomputable def g_X9_charOf_44 {d : Nat} : List zV → zH d → zP d → Bool := zsmy [(0, 0), (1, 3), (1, 4)] [zR 1, zI 1055, zI 5, zI 0] h0_X9_charOf_44 (zI 1) h1_X9_charOf_44
theorem mg_X9_charOf_44 {d : Nat} : zMet (d := d) X_X9_charOf yX9_charOf 9 g_X9_charOf_44 := zMet_sm m_X9_charOf ev_X9_charOf_44
noncomputable def h0_X9_charOf_45 : zH 2 := (show zT 2 from (((25, 63, bg_7), (0, 66, bg_5)), ((0, 11, bg_12), (0, 0, 0))), (3, (0, 0)))
noncomputable def h1_X9_charOf_45 : zH 2 := (show zT 2 from (((25, 63, bg_7), (0, 66, bg_5)), ((0, 11, bg_12), (0, 0, 0))), (3, (0, 0)))
theorem ev_X9_charOf_45 : f_X9_charOf [zR 1, zI 1055, zI 6, zI 0] h0_X9_charOf_45 (zrk (zI 1) h1_X9_charOf_45) = true := by decide +kernel
noncomputable def g_X9_charOf_45 {d : Nat} : List zV → zH d → zP d → Bool := zsmy [(0, 0), (1, 3), (1, 4)] [zR 1, zI 1055, zI 6, zI 0] h0_X9_charOf_45 (zI 1) h1_X9_charOf_45
theorem mg_X9_charOf_45 {d : Nat} : zMet (d := d) X_X9_charOf yX9_charOf 9 g_X9_charOf_45 := zMet_sm m_X9_charOf ev_X9_charOf_45
noncomputable def h0_X9_charOf_46 : zH 2 := (show zT 2 from (((25, 63, bg_7), (0, 66, bg_5)), ((0, 11, bg_12), (0, 0, 0))), (3, (0, 0)))
noncomputable def h1_X9_charOf_46 : zH 2 := (show zT 2 from (((25, 63, bg_7), (0, 66, bg_5)), ((0, 11, bg_12), (0, 0, 0))), (3, (0, 0)))
theorem ev_X9_charOf_46 : f_X9_charOf [zR 1, zI 559, zI 0, zI 0] h0_X9_charOf_46 (zrk (zI 4294967295) h1_X9_charOf_46) = true := by decide +kernel
noncomputable def g_X9_charOf_46 {d : Nat} : List zV → zH d → zP d → Bool := zsmy [(0, 0), (1, 3), (1, 4)] [zR 1, zI 559, zI 0, zI 0] h0_X9_charOf_46 (zI 4294967295) h1_X9_charOf_46
theorem mg_X9_charOf_46 {d : Nat} : zMet (d := d) X_X9_charOf yX9_charOf 9 g_X9_charOf_46 := zMet_sm m_X9_charOf ev_X9_charOf_46
noncomputable def h0_X9_charOf_47 : zH 2 := (show zT 2 from (((25, 63, bg_7), (0, 66, bg_5)), ((0, 11, bg_12), (0, 0, 0))), (3, (0, 0)))
noncomputable def h1_X9_charOf_47 : zH 2 := (show zT 2 from (((25, 63, bg_7), (0, 66, bg_5)), ((0, 11, bg_12), (0, 0, 0))), (3, (0, 0)))
theorem ev_X9_charOf_47 : f_X9_charOf [zR 1, zI 559, zI 1, zI 0] h0_X9_charOf_47 (zrk (zI 0) h1_X9_charOf_47) = true := by decide +kernel
noncomputable def g_X9_charOf_47 {d : Nat} : List zV → zH d → zP d → Bool := zsmy [(0, 0), (1, 3), (1, 4)] [zR 1, zI 559, zI 1, zI 0] h0_X9_charOf_47 (zI 0) h1_X9_charOf_47
theorem mg_X9_charOf_47 {d : Nat} : zMet (d := d) X_X9_charOf yX9_charOf 9 g_X9_charOf_47 := zMet_sm m_X9_charOf ev_X9_charOf_47
noncomputable def h0_X9_charOf_48 : zH 2 := (show zT 2 from (((25, 63, bg_7), (0, 66, bg_5)), ((0, 11, bg_12), (0, 0, 0))), (3, (0, 0)))
noncomputable def h1_X9_charOf_48 : zH 2 := (show zT 2 from (((25, 63, bg_7), (0, 66, bg_5)), ((0, 11, bg_12), (0, 0, 0))), (3, (0, 0)))
theorem ev_X9_charOf_48 : f_X9_charOf [zR 1, zI 559, zI 2, zI 0] h0_X9_charOf_48 (zrk (zI 4294967295) h1_X9_charOf_48) = true := by decide +kernel
noncomputable def g_X9_charOf_48 {d : Nat} : List zV → zH d → zP d → Bool := zsmy [(0, 0), (1, 3), (1, 4)] [zR 1, zI 559, zI 2, zI 0] h0_X9_charOf_48 (zI 4294967295) h1_X9_charOf_48
theorem mg_X9_charOf_48 {d : Nat} : zMet (d := d) X_X9_charOf yX9_charOf 9 g_X9_charOf_48 := zMet_sm m_X9_charOf ev_X9_charOf_48
noncomputable def h0_X9_charOf_49 : zH 2 := (show zT 2 from (((25, 63, bg_7), (0, 66, bg_5)), ((0, 11, bg_12), (0, 0, 0))), (3, (0, 0)))
noncomputable def h1_X9_charOf_49 : zH 2 := (show zT 2 from (((25, 63, bg_7), (0, 66, bg_5)), ((0, 11, bg_12), (0, 0, 0))), (3, (0, 0)))
theorem ev_X9_charOf_49 : f_X9_charOf [zR 1, zI 559, zI 3, zI 0] h0_X9_charOf_49 (zrk (zI 1) h1_X9_charOf_49) = true := by decide +kernel
noncomputable def g_X9_charOf_49 {d : Nat} : List zV → zH d → zP d → Bool := zsmy [(0, 0), (1, 3), (1, 4)] [zR 1, zI 559, zI 3, zI 0] h0_X9_charOf_49 (zI 1) h1_X9_charOf_49
theorem mg_X9_charOf_49 {d : Nat} : zMet (d := d) X_X9_charOf yX9_charOf 9 g_X9_charOf_49 := zMet_sm m_X9_charOf ev_X9_charOf_49
noncomputable def h0_X9_charOf_50 : zH 2 := (show zT 2 from (((25, 63, bg_7), (0, 66, bg_5)), ((0, 11, bg_12), (0, 0, 0))), (3, (0, 0)))
noncomputable def h1_X9_charOf_50 : zH 2 := (show zT 2 from (((25, 63, bg_7), (0, 66, bg_5)), ((0, 11, bg_12), (0, 0, 0))), (3, (0, 0)))
theorem ev_X9_charOf_50 : f_X9_charOf [zR 1, zI 559, zI 4, zI 0] h0_X9_charOf_50 (zrk (zI 0) h1_X9_charOf_50) = true := by decide +kernel
noncomputable def g_X9_charOf_50 {d : Nat} : List zV → zH d → zP d → Bool := zsmy [(0, 0), (1, 3), (1, 4)] [zR 1, zI 559, zI 4, zI 0] h0_X9_charOf_50 (zI 0) h1_X9_charOf_50
theorem mg_X9_charOf_50 {d : Nat} : zMet (d := d) X_X9_charOf yX9_charOf 9 g_X9_charOf_50 := zMet_sm m_X9_charOf ev_X9_charOf_50
noncomputable def h0_X9_charOf_51 : zH 2 := (show zT 2 from (((25, 63, bg_7), (0, 66, bg_5)), ((0, 11, bg_12), (0, 0, 0))), (3, (0, 0)))
noncomputable def h1_X9_charOf_51 : zH 2 := (show zT 2 from (((25, 63, bg_7), (0, 66, bg_5)), ((0, 11, bg_12), (0, 0, 0))), (3, (0, 0)))
theorem ev_X9_charOf_51 : f_X9_charOf [zR 1, zI 559, zI 5, zI 0] h0_X9_charOf_51 (zrk (zI 2) h1_X9_charOf_51) = true := by decide +kernel
noncomputable def g_X9_charOf_51 {d : Nat} : List zV → zH d → zP d → Bool := zsmy [(0, 0), (1, 3), (1, 4)] [zR 1, zI 559, zI 5, zI 0] h0_X9_charOf_51 (zI 2) h1_X9_charOf_51
theorem mg_X9_charOf_51 {d : Nat} : zMet (d := d) X_X9_charOf yX9_charOf 9 g_X9_charOf_51 := zMet_sm m_X9_charOf ev_X9_charOf_51
noncomputable def h0_X9_charOf_52 : zH 2 := (show zT 2 from (((25, 63, bg_7), (0, 66, bg_5)), ((0, 11, bg_12), (0, 0, 0))), (3, (0, 0)))
noncomputable def h1_X9_charOf_52 : zH 2 := (show zT 2 from (((25, 63, bg_7), (0, 66, bg_5)), ((0, 11, bg_12), (0, 0, 0))), (3, (0, 0)))
theorem ev_X9_charOf_52 : f_X9_charOf [zR 1, zI 559, zI 6, zI 0] h0_X9_charOf_52 (zrk (zI 4) h1_X9_charOf_52) = true := by decide +kernel
noncomputable def g_X9_charOf_52 {d : Nat} : List zV → zH d → zP d → Bool := zsmy [(0, 0), (1, 3), (1, 4)] [zR 1, zI 559, zI 6, zI 0] h0_X9_charOf_52 (zI 4) h1_X9_charOf_52
theorem mg_X9_charOf_52 {d : Nat} : zMet (d := d) X_X9_charOf yX9_charOf 9 g_X9_charOf_52 := zMet_sm m_X9_charOf ev_X9_charOf_52
noncomputable def h0_X9_charOf_53 : zH 2 := (show zT 2 from (((25, 63, bg_7), (0, 66, bg_5)), ((0, 11, bg_12), (0, 0, 0))), (3, (0, 0)))
noncomputable def h1_X9_charOf_53 : zH 2 := (show zT 2 from (((25, 63, bg_7), (0, 66, bg_5)), ((0, 11, bg_12), (0, 0, 0))), (3, (0, 0)))
theorem ev_X9_charOf_53 : f_X9_charOf [zR 1, zI 335, zI 0, zI 0] h0_X9_charOf_53 (zrk (zI 0) h1_X9_charOf_53) = true := by decide +kernel
noncomputable def g_X9_charOf_53 {d : Nat} : List zV → zH d → zP d → Bool := zsmy [(0, 0), (1, 3), (1, 4)] [zR 1, zI 335, zI 0, zI 0] h0_X9_charOf_53 (zI 0) h1_X9_charOf_53
theorem mg_X9_charOf_53 {d : Nat} : zMet (d := d) X_X9_charOf yX9_charOf 9 g_X9_charOf_53 := zMet_sm m_X9_charOf ev_X9_charOf_53
noncomputable def h0_X9_charOf_54 : zH 2 := (show zT 2 from (((25, 63, bg_7), (0, 66, bg_5)), ((0, 11, bg_12), (0, 0, 0))), (3, (0, 0)))
noncomputable def h1_X9_charOf_54 : zH 2 := (show zT 2 from (((25, 63, bg_7), (0, 66, bg_5)), ((0, 11, bg_12), (0, 0, 0))), (3, (0, 0)))
theorem ev_X9_charOf_54 : f_X9_charOf [zR 1, zI 335, zI 1, zI 0] h0_X9_charOf_54 (zrk (zI 4294967295) h1_X9_charOf_54) = true := by decide +kernel
noncomputable def g_X9_charOf_54 {d : Nat} : List zV → zH d → zP d → Bool := zsmy [(0, 0), (1, 3), (1, 4)] [zR 1, zI 335, zI 1, zI 0] h0_X9_charOf_54 (zI 4294967295) h1_X9_charOf_54
theorem mg_X9_charOf_54 {d : Nat} : zMet (d := d) X_X9_charOf yX9_charOf 9 g_X9_charOf_54 := zMet_sm m_X9_charOf ev_X9_charOf_54
noncomputable def h0_X9_charOf_55 : zH 2 := (show zT 2 from (((25, 63, bg_7), (0, 66, bg_5)), ((0, 11, bg_12), (0, 0, 0))), (3, (0, 0)))
noncomputable def h1_X9_charOf_55 : zH 2 := (show zT 2 from (((25, 63, bg_7), (0, 66, bg_5)), ((0, 11, bg_12), (0, 0, 0))), (3, (0, 0)))
theorem ev_X9_charOf_55 : f_X9_charOf [zR 1, zI 335, zI 2, zI 0] h0_X9_charOf_55 (zrk (zI 1) h1_X9_charOf_55) = true := by decide +kernel
noncomputable def g_X9_charOf_55 {d : Nat} : List zV → zH d → zP d → Bool := zsmy [(0, 0), (1, 3), (1, 4)] [zR 1, zI 335, zI 2, zI 0] h0_X9_charOf_55 (zI 1) h1_X9_charOf_55
theorem mg_X9_charOf_55 {d : Nat} : zMet (d := d) X_X9_charOf yX9_charOf 9 g_X9_charOf_55 := zMet_sm m_X9_charOf ev_X9_charOf_55
noncomputable def h0_X9_charOf_56 : zH 2 := (show zT 2 from (((25, 63, bg_7), (0, 66, bg_5)), ((0, 11, bg_12), (0, 0, 0))), (3, (0, 0)))
noncomputable def h1_X9_charOf_56 : zH 2 := (show zT 2 from (((25, 63, bg_7), (0, 66, bg_5)), ((0, 11, bg_12), (0, 0, 0))), (3, (0, 0)))
theorem ev_X9_charOf_56 : f_X9_charOf [zR 1, zI 335, zI 3, zI 0] h0_X9_charOf_56 (zrk (zI 4294967295) h1_X9_charOf_56) = true := by decide +kernel
noncomputable def g_X9_charOf_56 {d : Nat} : List zV → zH d → zP d → Bool := zsmy [(0, 0), (1, 3), (1, 4)] [zR 1, zI 335, zI 3, zI 0] h0_X9_charOf_56 (zI 4294967295) h1_X9_charOf_56
theorem mg_X9_charOf_56 {d : Nat} : zMet (d := d) X_X9_charOf yX9_charOf 9 g_X9_charOf_56 := zMet_sm m_X9_charOf ev_X9_charOf_56
noncomputable def h0_X9_charOf_57 : zH 2 := (show zT 2 from (((25, 63, bg_7), (0, 66, bg_5)), ((0, 11, bg_12), (0, 0, 0))), (3, (0, 0)))
noncomputable def h1_X9_charOf_57 : zH 2 := (show zT 2 from (((25, 63, bg_7), (0, 66, bg_5)), ((0, 11, bg_12), (0, 0, 0))), (3, (0, 0)))
theorem ev_X9_charOf_57 : f_X9_charOf [zR 1, zI 335, zI 4, zI 0] h0_X9_charOf_57 (zrk (zI 1) h1_X9_charOf_57) = true := by decide +kernel
noncomputable def g_X9_charOf_57 {d : Nat} : List zV → zH d → zP d → Bool := zsmy [(0, 0), (1, 3), (1, 4)] [zR 1, zI 335, zI 4, zI 0] h0_X9_charOf_57 (zI 1) h1_X9_charOf_57
theorem mg_X9_charOf_57 {d : Nat} : zMet (d := d) X_X9_charOf yX9_charOf 9 g_X9_charOf_57 := zMet_sm m_X9_charOf ev_X9_charOf_57
noncomputable def h0_X9_charOf_58 : zH 2 := (show zT 2 from (((25, 63, bg_7), (0, 66, bg_5)), ((0, 11, bg_12), (0, 0, 0))), (3, (0, 0)))
noncomputable def h1_X9_charOf_58 : zH 2 := (show zT 2 from (((25, 63, bg_7), (0, 66, bg_5)), ((0, 11, bg_12), (0, 0, 0))), (3, (0, 0)))
theorem ev_X9_charOf_58 : f_X9_charOf [zR 1, zI 335, zI 5, zI 0] h0_X9_charOf_58 (zrk (zI 1) h1_X9_charOf_58) = true := by decide +kernel
noncomputable def g_X9_charOf_58 {d : Nat} : List zV → zH d → zP d → Bool := zsmy [(0, 0), (1, 3), (1, 4)] [zR 1, zI 335, zI 5, zI 0] h0_X9_charOf_58 (zI 1) h1_X9_charOf_58
theorem mg_X9_charOf_58 {d : Nat} : zMet (d := d) X_X9_charOf yX9_charOf 9 g_X9_charOf_58 := zMet_sm m_X9_charOf ev_X9_charOf_58
noncomputable def h0_X9_charOf_59 : zH 2 := (show zT 2 from (((25, 63, bg_7), (0, 66, bg_5)), ((0, 11, bg_12), (0, 0, 0))), (3, (0, 0)))
noncomputable def h1_X9_charOf_59 : zH 2 := (show zT 2 from (((25, 63, bg_7), (0, 66, bg_5)), ((0, 11, bg_12), (0, 0, 0))), (3, (0, 0)))
theorem ev_X9_charOf_59 : f_X9_charOf [zR 1, zI 335, zI 6, zI 0] h0_X9_charOf_59 (zrk (zI 5) h1_X9_charOf_59) = true := by decide +kernel
noncomputable def g_X9_charOf_59 {d : Nat} : List zV → zH d → zP d → Bool := zsmy [(0, 0), (1, 3), (1, 4)] [zR 1, zI 335, zI 6, zI 0] h0_X9_charOf_59 (zI 5) h1_X9_charOf_59
theorem mg_X9_charOf_59 {d : Nat} : zMet (d := d) X_X9_charOf yX9_charOf 9 g_X9_charOf_59 := zMet_sm m_X9_charOf ev_X9_charOf_59
noncomputable def h0_X9_charOf_60 : zH 2 := (show zT 2 from (((25, 63, bg_7), (0, 66, bg_5)), ((0, 11, bg_12), (0, 0, 0))), (3, (0, 0)))
noncomputable def h1_X9_charOf_60 : zH 2 := (show zT 2 from (((25, 63, bg_7), (0, 66, bg_5)), ((0, 11, bg_12), (0, 0, 0))), (3, (0, 0)))
theorem ev_X9_charOf_60 : f_X9_charOf [zR 1, zI 311, zI 0, zI 0] h0_X9_charOf_60 (zrk (zI 1) h1_X9_charOf_60) = true := by decide +kernel
noncomputable def g_X9_charOf_60 {d : Nat} : List zV → zH d → zP d → Bool := zsmy [(0, 0), (1, 3), (1, 4)] [zR 1, zI 311, zI 0, zI 0] h0_X9_charOf_60 (zI 1) h1_X9_charOf_60
theorem mg_X9_charOf_60 {d : Nat} : zMet (d := d) X_X9_charOf yX9_charOf 9 g_X9_charOf_60 := zMet_sm m_X9_charOf ev_X9_charOf_60
noncomputable def h0_X9_charOf_61 : zH 2 := (show zT 2 from (((25, 63, bg_7), (0, 66, bg_5)), ((0, 11, bg_12), (0, 0, 0))), (3, (0, 0)))
noncomputable def h1_X9_charOf_61 : zH 2 := (show zT 2 from (((25, 63, bg_7), (0, 66, bg_5)), ((0, 11, bg_12), (0, 0, 0))), (3, (0, 0)))
theorem ev_X9_charOf_61 : f_X9_charOf [zR 1, zI 311, zI 1, zI 0] h0_X9_charOf_61 (zrk (zI 0) h1_X9_charOf_61) = true := by decide +kernel
noncomputable def g_X9_charOf_61 {d : Nat} : List zV → zH d → zP d → Bool := zsmy [(0, 0), (1, 3), (1, 4)] [zR 1, zI 311, zI 1, zI 0] h0_X9_charOf_61 (zI 0) h1_X9_charOf_61
theorem mg_X9_charOf_61 {d : Nat} : zMet (d := d) X_X9_charOf yX9_charOf 9 g_X9_charOf_61 := zMet_sm m_X9_charOf ev_X9_charOf_61
noncomputable def h0_X9_charOf_62 : zH 2 := (show zT 2 from (((25, 63, bg_7), (0, 66, bg_5)), ((0, 11, bg_12), (0, 0, 0))), (3, (0, 0)))
noncomputable def h1_X9_charOf_62 : zH 2 := (show zT 2 from (((25, 63, bg_7), (0, 66, bg_5)), ((0, 11, bg_12), (0, 0, 0))), (3, (0, 0)))
theorem ev_X9_charOf_62 : f_X9_charOf [zR 1, zI 311, zI 2, zI 0] h0_X9_charOf_62 (zrk (zI 0) h1_X9_charOf_62) = true := by decide +kernel
noncomputable def g_X9_charOf_62 {d : Nat} : List zV → zH d → zP d → Bool := zsmy [(0, 0), (1, 3), (1, 4)] [zR 1, zI 311, zI 2, zI 0] h0_X9_charOf_62 (zI 0) h1_X9_charOf_62
theorem mg_X9_charOf_62 {d : Nat} : zMet (d := d) X_X9_charOf yX9_charOf 9 g_X9_charOf_62 := zMet_sm m_X9_charOf ev_X9_charOf_62
noncomputable def h0_X9_charOf_63 : zH 2 := (show zT 2 from (((25, 63, bg_7), (0, 66, bg_5)), ((0, 11, bg_12), (0, 0, 0))), (3, (0, 0)))
noncomputable def h1_X9_charOf_63 : zH 2 := (show zT 2 from (((25, 63, bg_7), (0, 66, bg_5)), ((0, 11, bg_12), (0, 0, 0))), (3, (0, 0)))
theorem ev_X9_charOf_63 : f_X9_charOf [zR 1, zI 311, zI 3, zI 0] h0_X9_charOf_63 (zrk (zI 0) h1_X9_charOf_63) = true := by decide +kernel
noncomputable def g_X9_charOf_63 {d : Nat} : List zV → zH d → zP d → Bool := zsmy [(0, 0), (1, 3), (1, 4)] [zR 1, zI 311, zI 3, zI 0] h0_X9_charOf_63 (zI 0) h1_X9_charOf_63
theorem mg_X9_charOf_63 {d : Nat} : zMet (d := d) X_X9_charOf yX9_charOf 9 g_X9_charOf_63 := zMet_sm m_X9_charOf ev_X9_charOf_63
noncomputable def h0_X9_charOf_64 : zH 2 := (show zT 2 from (((25, 63, bg_7), (0, 66, bg_5)), ((0, 11, bg_12), (0, 0, 0))), (3, (0, 0)))
noncomputable def h1_X9_charOf_64 : zH 2 := (show zT 2 from (((25, 63, bg_7), (0, 66, bg_5)), ((0, 11, bg_12), (0, 0, 0))), (3, (0, 0)))
theorem ev_X9_charOf_64 : f_X9_charOf [zR 1, zI 311, zI 4, zI 0] h0_X9_charOf_64 (zrk (zI 4294967294) h1_X9_charOf_64) = true := by decide +kernel
noncomputable def g_X9_charOf_64 {d : Nat} : List zV → zH d → zP d → Bool := zsmy [(0, 0), (1, 3), (1, 4)] [zR 1, zI 311, zI 4, zI 0] h0_X9_charOf_64 (zI 4294967294) h1_X9_charOf_64
theorem mg_X9_charOf_64 {d : Nat} : zMet (d := d) X_X9_charOf yX9_charOf 9 g_X9_charOf_64 := zMet_sm m_X9_charOf ev_X9_charOf_64
noncomputable def h0_X9_charOf_65 : zH 2 := (show zT 2 from (((25, 63, bg_7), (0, 66, bg_5)), ((0, 11, bg_12), (0, 0, 0))), (3, (0, 0)))
noncomputable def h1_X9_charOf_65 : zH 2 := (show zT 2 from (((25, 63, bg_7), (0, 66, bg_5)), ((0, 11, bg_12), (0, 0, 0))), (3, (0, 0)))
theorem ev_X9_charOf_65 : f_X9_charOf [zR 1, zI 311, zI 5, zI 0] h0_X9_charOf_65 (zrk (zI 0) h1_X9_charOf_65) = true := by decide +kernel
noncomputable def g_X9_charOf_65 {d : Nat} : List zV → zH d → zP d → Bool := zsmy [(0, 0), (1, 3), (1, 4)] [zR 1, zI 311, zI 5, zI 0] h0_X9_charOf_65 (zI 0) h1_X9_charOf_65
theorem mg_X9_charOf_65 {d : Nat} : zMet (d := d) X_X9_charOf yX9_charOf 9 g_X9_charOf_65 := zMet_sm m_X9_charOf ev_X9_charOf_65
noncomputable def h0_X9_charOf_66 : zH 2 := (show zT 2 from (((25, 63, bg_7), (0, 66, bg_5)), ((0, 11, bg_12), (0, 0, 0))), (3, (0, 0)))
noncomputable def h1_X9_charOf_66 : zH 2 := (show zT 2 from (((25, 63, bg_7), (0, 66, bg_5)), ((0, 11, bg_12), (0, 0, 0))), (3, (0, 0)))
theorem ev_X9_charOf_66 : f_X9_charOf [zR 1, zI 311, zI 6, zI 0] h0_X9_charOf_66 (zrk (zI 6) h1_X9_charOf_66) = true := by decide +kernel
noncomputable def g_X9_charOf_66 {d : Nat} : List zV → zH d → zP d → Bool := zsmy [(0, 0), (1, 3), (1, 4)] [zR 1, zI 311, zI 6, zI 0] h0_X9_charOf_66 (zI 6) h1_X9_charOf_66
theorem mg_X9_charOf_66 {d : Nat} : zMet (d := d) X_X9_charOf yX9_charOf 9 g_X9_charOf_66 := zMet_sm m_X9_charOf ev_X9_charOf_66
noncomputable def h0_X9_charOf_67 : zH 2 := (show zT 2 from (((25, 63, bg_7), (0, 66, bg_5)), ((0, 11, bg_12), (0, 0, 0))), (3, (0, 0)))
noncomputable def h1_X9_charOf_67 : zH 2 := (show zT 2 from (((25, 63, bg_7), (0, 66, bg_5)), ((0, 11, bg_12), (0, 0, 0))), (3, (0, 0)))
theorem ev_X9_charOf_67 : f_X9_charOf [zR 1, zI 215, zI 0, zI 0] h0_X9_charOf_67 (zrk (zI 0) h1_X9_charOf_67) = true := by decide +kernel
noncomputable def g_X9_charOf_67 {d : Nat} : List zV → zH d → zP d → Bool := zsmy [(0, 0), (1, 3), (1, 4)] [zR 1, zI 215, zI 0, zI 0] h0_X9_charOf_67 (zI 0) h1_X9_charOf_67
theorem mg_X9_charOf_67 {d : Nat} : zMet (d := d) X_X9_charOf yX9_charOf 9 g_X9_charOf_67 := zMet_sm m_X9_charOf ev_X9_charOf_67
noncomputable def h0_X9_charOf_68 : zH 2 := (show zT 2 from (((25, 63, bg_7), (0, 66, bg_5)), ((0, 11, bg_12), (0, 0, 0))), (3, (0, 0)))
noncomputable def h1_X9_charOf_68 : zH 2 := (show zT 2 from (((25, 63, bg_7), (0, 66, bg_5)), ((0, 11, bg_12), (0, 0, 0))), (3, (0, 0)))
theorem ev_X9_charOf_68 : f_X9_charOf [zR 1, zI 215, zI 1, zI 0] h0_X9_charOf_68 (zrk (zI 1) h1_X9_charOf_68) = true := by decide +kernel
noncomputable def g_X9_charOf_68 {d : Nat} : List zV → zH d → zP d → Bool := zsmy [(0, 0), (1, 3), (1, 4)] [zR 1, zI 215, zI 1, zI 0] h0_X9_charOf_68 (zI 1) h1_X9_charOf_68
theorem mg_X9_charOf_68 {d : Nat} : zMet (d := d) X_X9_charOf yX9_charOf 9 g_X9_charOf_68 := zMet_sm m_X9_charOf ev_X9_charOf_68
noncomputable def h0_X9_charOf_69 : zH 2 := (show zT 2 from (((25, 63, bg_7), (0, 66, bg_5)), ((0, 11, bg_12), (0, 0, 0))), (3, (0, 0)))
noncomputable def h1_X9_charOf_69 : zH 2 := (show zT 2 from (((25, 63, bg_7), (0, 66, bg_5)), ((0, 11, bg_12), (0, 0, 0))), (3, (0, 0)))
theorem ev_X9_charOf_69 : f_X9_charOf [zR 1, zI 215, zI 2, zI 0] h0_X9_charOf_69 (zrk (zI 4294967295) h1_X9_charOf_69) = true := by decide +kernel
noncomputable def g_X9_charOf_69 {d : Nat} : List zV → zH d → zP d → Bool := zsmy [(0, 0), (1, 3), (1, 4)] [zR 1, zI 215, zI 2, zI 0] h0_X9_charOf_69 (zI 4294967295) h1_X9_charOf_69
theorem mg_X9_charOf_69 {d : Nat} : zMet (d := d) X_X9_charOf yX9_charOf 9 g_X9_charOf_69 := zMet_sm m_X9_charOf ev_X9_charOf_69
noncomputable def h0_X9_charOf_70 : zH 2 := (show zT 2 from (((25, 63, bg_7), (0, 66, bg_5)), ((0, 11, bg_12), (0, 0, 0))), (3, (0, 0)))
noncomputable def h1_X9_charOf_70 : zH 2 := (show zT 2 from (((25, 63, bg_7), (0, 66, bg_5)), ((0, 11, bg_12), (0, 0, 0))), (3, (0, 0)))
theorem ev_X9_charOf_70 : f_X9_charOf [zR 1, zI 215, zI 3, zI 0] h0_X9_charOf_70 (zrk (zI 4294967295) h1_X9_charOf_70) = true := by decide +kernel
noncomputable def g_X9_charOf_70 {d : Nat} : List zV → zH d → zP d → Bool := zsmy [(0, 0), (1, 3), (1, 4)] [zR 1, zI 215, zI 3, zI 0] h0_X9_charOf_70 (zI 4294967295) h1_X9_charOf_70
theorem mg_X9_charOf_70 {d : Nat} : zMet (d := d) X_X9_charOf yX9_charOf 9 g_X9_charOf_70 := zMet_sm m_X9_charOf ev_X9_charOf_70
noncomputable def h0_X9_charOf_71 : zH 2 := (show zT 2 from (((25, 63, bg_7), (0, 66, bg_5)), ((0, 11, bg_12), (0, 0, 0))), (3, (0, 0)))
noncomputable def h1_X9_charOf_71 : zH 2 := (show zT 2 from (((25, 63, bg_7), (0, 66, bg_5)), ((0, 11, bg_12), (0, 0, 0))), (3, (0, 0)))
theorem ev_X9_charOf_71 : f_X9_charOf [zR 1, zI 215, zI 4, zI 0] h0_X9_charOf_71 (zrk (zI 1) h1_X9_charOf_71) = true := by decide +kernel
noncomputable def g_X9_charOf_71 {d : Nat} : List zV → zH d → zP d → Bool := zsmy [(0, 0), (1, 3), (1, 4)] [zR 1, zI 215, zI 4, zI 0] h0_X9_charOf_71 (zI 1) h1_X9_charOf_71
theorem mg_X9_charOf_71 {d : Nat} : zMet (d := d) X_X9_charOf yX9_charOf 9 g_X9_charOf_71 := zMet_sm m_X9_charOf ev_X9_charOf_71
noncomputable def h0_X9_charOf_72 : zH 2 := (show zT 2 from (((25, 63, bg_7), (0, 66, bg_5)), ((0, 11, bg_12), (0, 0, 0))), (3, (0, 0)))
noncomputable def h1_X9_charOf_72 : zH 2 := (show zT 2 from (((25, 63, bg_7), (0, 66, bg_5)), ((0, 11, bg_12), (0, 0, 0))), (3, (0, 0)))
theorem ev_X9_charOf_72 : f_X9_charOf [zR 1, zI 215, zI 5, zI 0] h0_X9_charOf_72 (zrk (zI 4294967295) h1_X9_charOf_72) = true := by decide +kernel
noncomputable def g_X9_charOf_72 {d : Nat} : List zV → zH d → zP d → Bool := zsmy [(0, 0), (1, 3), (1, 4)] [zR 1, zI 215, zI 5, zI 0] h0_X9_charOf_72 (zI 4294967295) h1_X9_charOf_72
theorem mg_X9_charOf_72 {d : Nat} : zMet (d := d) X_X9_charOf yX9_charOf 9 g_X9_charOf_72 := zMet_sm m_X9_charOf ev_X9_charOf_72
