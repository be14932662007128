/-! the reference by summaries, by program -/
noncomputable def h0_X9_beadsOf_0 : zH 1 := (show zT 1 from ((25, 63, bg_0), (0, 66, bg_1)), (2, (0, 0)))
noncomputable def h1_X9_beadsOf_0 : zH 1 := (show zT 1 from ((25, 63, bg_0), (0, 66, bg_1)), (2, (0, 0)))
theorem ev_X9_beadsOf_0 : f_X9_beadsOf [zR 1, zI 0] h0_X9_beadsOf_0 (zrk (zI 95) h1_X9_beadsOf_0) = true := by decide +kernel
noncomputable def g_X9_beadsOf_0 {d : Nat} : List zV → zH d → zP d → Bool := zsmy [(0, 0), (1, 3)] [zR 1, zI 0] h0_X9_beadsOf_0 (zI 95) h1_X9_beadsOf_0
theorem mg_X9_beadsOf_0 {d : Nat} : zMet (d := d) X_X9_beadsOf yX9_beadsOf 2 g_X9_beadsOf_0 := zMet_sm m_X9_beadsOf ev_X9_beadsOf_0
noncomputable def h0_X9_beadsOf_1 : zH 1 := (show zT 1 from ((25, 63, bg_0), (0, 66, bg_2)), (2, (0, 0)))
noncomputable def h1_X9_beadsOf_1 : zH 1 := (show zT 1 from ((25, 63, bg_0), (0, 66, bg_2)), (2, (0, 0)))
theorem ev_X9_beadsOf_1 : f_X9_beadsOf [zR 1, zI 0] h0_X9_beadsOf_1 (zrk (zI 159) h1_X9_beadsOf_1) = true := by decide +kernel
noncomputable def g_X9_beadsOf_1 {d : Nat} : List zV → zH d → zP d → Bool := zsmy [(0, 0), (1, 3)] [zR 1, zI 0] h0_X9_beadsOf_1 (zI 159) h1_X9_beadsOf_1
theorem mg_X9_beadsOf_1 {d : Nat} : zMet (d := d) X_X9_beadsOf yX9_beadsOf 2 g_X9_beadsOf_1 := zMet_sm m_X9_beadsOf ev_X9_beadsOf_1
noncomputable def h0_X9_beadsOf_2 : zH 1 := (show zT 1 from ((25, 63, bg_0), (0, 66, bg_2)), (2, (0, 0)))
noncomputable def h1_X9_beadsOf_2 : zH 1 := (show zT 1 from ((25, 63, bg_0), (0, 66, bg_2)), (2, (0, 0)))
theorem ev_X9_beadsOf_2 : f_X9_beadsOf [zR 1, zI 1] h0_X9_beadsOf_2 (zrk (zI 111) h1_X9_beadsOf_2) = true := by decide +kernel
noncomputable def g_X9_beadsOf_2 {d : Nat} : List zV → zH d → zP d → Bool := zsmy [(0, 0), (1, 3)] [zR 1, zI 1] h0_X9_beadsOf_2 (zI 111) h1_X9_beadsOf_2
theorem mg_X9_beadsOf_2 {d : Nat} : zMet (d := d) X_X9_beadsOf yX9_beadsOf 2 g_X9_beadsOf_2 := zMet_sm m_X9_beadsOf ev_X9_beadsOf_2
noncomputable def h0_X9_beadsOf_3 : zH 1 := (show zT 1 from ((25, 63, bg_0), (0, 66, bg_3)), (2, (0, 0)))
noncomputable def h1_X9_beadsOf_3 : zH 1 := (show zT 1 from ((25, 63, bg_0), (0, 66, bg_3)), (2, (0, 0)))
theorem ev_X9_beadsOf_3 : f_X9_beadsOf [zR 1, zI 0] h0_X9_beadsOf_3 (zrk (zI 287) h1_X9_beadsOf_3) = true := by decide +kernel
noncomputable def g_X9_beadsOf_3 {d : Nat} : List zV → zH d → zP d → Bool := zsmy [(0, 0), (1, 3)] [zR 1, zI 0] h0_X9_beadsOf_3 (zI 287) h1_X9_beadsOf_3
theorem mg_X9_beadsOf_3 {d : Nat} : zMet (d := d) X_X9_beadsOf yX9_beadsOf 2 g_X9_beadsOf_3 := zMet_sm m_X9_beadsOf ev_X9_beadsOf_3
noncomputable def h0_X9_beadsOf_4 : zH 1 := (show zT 1 from ((25, 63, bg_0), (0, 66, bg_3)), (2, (0, 0)))
noncomputable def h1_X9_beadsOf_4 : zH 1 := (show zT 1 from ((25, 63, bg_0), (0, 66, bg_3)), (2, (0, 0)))
theorem ev_X9_beadsOf_4 : f_X9_beadsOf [zR 1, zI 1] h0_X9_beadsOf_4 (zrk (zI 175) h1_X9_beadsOf_4) = true := by decide +kernel
noncomputable def g_X9_beadsOf_4 {d : Nat} : List zV → zH d → zP d → Bool := zsmy [(0, 0), (1, 3)] [zR 1, zI 1] h0_X9_beadsOf_4 (zI 175) h1_X9_beadsOf_4
theorem mg_X9_beadsOf_4 {d : Nat} : zMet (d := d) X_X9_beadsOf yX9_beadsOf 2 g_X9_beadsOf_4 := zMet_sm m_X9_beadsOf ev_X9_beadsOf_4
noncomputable def h0_X9_beadsOf_5 : zH 1 := (show zT 1 from ((25, 63, bg_0), (0, 66, bg_3)), (2, (0, 0)))
noncomputable def h1_X9_beadsOf_5 : zH 1 := (show zT 1 from ((25, 63, bg_0), (0, 66, bg_3)), (2, (0, 0)))
theorem ev_X9_beadsOf_5 : f_X9_beadsOf [zR 1, zI 2] h0_X9_beadsOf_5 (zrk (zI 119) h1_X9_beadsOf_5) = true := by decide +kernel
noncomputable def g_X9_beadsOf_5 {d : Nat} : List zV → zH d → zP d → Bool := zsmy [(0, 0), (1, 3)] [zR 1, zI 2] h0_X9_beadsOf_5 (zI 119) h1_X9_beadsOf_5
theorem mg_X9_beadsOf_5 {d : Nat} : zMet (d := d) X_X9_beadsOf yX9_beadsOf 2 g_X9_beadsOf_5 := zMet_sm m_X9_beadsOf ev_X9_beadsOf_5
noncomputable def h0_X9_beadsOf_6 : zH 1 := (show zT 1 from ((25, 63, bg_0), (0, 66, bg_4)), (2, (0, 0)))
noncomputable def h1_X9_beadsOf_6 : zH 1 := (show zT 1 from ((25, 63, bg_0), (0, 66, bg_4)), (2, (0, 0)))
theorem ev_X9_beadsOf_6 : f_X9_beadsOf [zR 1, zI 0] h0_X9_beadsOf_6 (zrk (zI 543) h1_X9_beadsOf_6) = true := by decide +kernel
noncomputable def g_X9_beadsOf_6 {d : Nat} : List zV → zH d → zP d → Bool := zsmy [(0, 0), (1, 3)] [zR 1, zI 0] h0_X9_beadsOf_6 (zI 543) h1_X9_beadsOf_6
theorem mg_X9_beadsOf_6 {d : Nat} : zMet (d := d) X_X9_beadsOf yX9_beadsOf 2 g_X9_beadsOf_6 := zMet_sm m_X9_beadsOf ev_X9_beadsOf_6
noncomputable def h0_X9_beadsOf_7 : zH 1 := (show zT 1 from ((25, 63, bg_0), (0, 66, bg_4)), (2, (0, 0)))
noncomputable def h1_X9_beadsOf_7 : zH 1 := (show zT 1 from ((25, 63, bg_0), (0, 66, bg_4)), (2, (0, 0)))
theorem ev_X9_beadsOf_7 : f_X9_beadsOf [zR 1, zI 1] h0_X9_beadsOf_7 (zrk (zI 303) h1_X9_beadsOf_7) = true := by decide +kernel
noncomputable def g_X9_beadsOf_7 {d : Nat} : List zV → zH d → zP d → Bool := zsmy [(0, 0), (1, 3)] [zR 1, zI 1] h0_X9_beadsOf_7 (zI 303) h1_X9_beadsOf_7
theorem mg_X9_beadsOf_7 {d : Nat} : zMet (d := d) X_X9_beadsOf yX9_beadsOf 2 g_X9_beadsOf_7 := zMet_sm m_X9_beadsOf ev_X9_beadsOf_7
noncomputable def h0_X9_beadsOf_8 : zH 1 := (show zT 1 from ((25, 63, bg_0), (0, 66, bg_4)), (2, (0, 0)))
noncomputable def h1_X9_beadsOf_8 : zH 1 := (show zT 1 from ((25, 63, bg_0), (0, 66, bg_4)), (2, (0, 0)))
theorem ev_X9_beadsOf_8 : f_X9_beadsOf [zR 1, zI 2] h0_X9_beadsOf_8 (zrk (zI 207) h1_X9_beadsOf_8) = true := by decide +kernel
noncomputable def g_X9_beadsOf_8 {d : Nat} : List zV → zH d → zP d → Bool := zsmy [(0, 0), (1, 3)] [zR 1, zI 2] h0_X9_beadsOf_8 (zI 207) h1_X9_beadsOf_8
theorem mg_X9_beadsOf_8 {d : Nat} : zMet (d := d) X_X9_beadsOf yX9_beadsOf 2 g_X9_beadsOf_8 := zMet_sm m_X9_beadsOf ev_X9_beadsOf_8
noncomputable def h0_X9_beadsOf_9 : zH 1 := (show zT 1 from ((25, 63, bg_0), (0, 66, bg_4)), (2, (0, 0)))
noncomputable def h1_X9_beadsOf_9 : zH 1 := (show zT 1 from ((25, 63, bg_0), (0, 66, bg_4)), (2, (0, 0)))
theorem ev_X9_beadsOf_9 : f_X9_beadsOf [zR 1, zI 3] h0_X9_beadsOf_9 (zrk (zI 183) h1_X9_beadsOf_9) = true := by decide +kernel
noncomputable def g_X9_beadsOf_9 {d : Nat} : List zV → zH d → zP d → Bool := zsmy [(0, 0), (1, 3)] [zR 1, zI 3] h0_X9_beadsOf_9 (zI 183) h1_X9_beadsOf_9
theorem mg_X9_beadsOf_9 {d : Nat} : zMet (d := d) X_X9_beadsOf yX9_beadsOf 2 g_X9_beadsOf_9 := zMet_sm m_X9_beadsOf ev_X9_beadsOf_9
noncomputable def h0_X9_beadsOf_10 : zH 1 := (show zT 1 from ((25, 63, bg_0), (0, 66, bg_4)), (2, (0, 0)))
noncomputable def h1_X9_beadsOf_10 : zH 1 := (show zT 1 from ((25, 63, bg_0), (0, 66, bg_4)), (2, (0, 0)))
theorem ev_X9_beadsOf_10 : f_X9_beadsOf [zR 1, zI 4] h0_X9_beadsOf_10 (zrk (zI 123) h1_X9_beadsOf_10) = true := by decide +kernel
noncomputable def g_X9_beadsOf_10 {d : Nat} : List zV → zH d → zP d → Bool := zsmy [(0, 0), (1, 3)] [zR 1, zI 4] h0_X9_beadsOf_10 (zI 123) h1_X9_beadsOf_10
theorem mg_X9_beadsOf_10 {d : Nat} : zMet (d := d) X_X9_beadsOf yX9_beadsOf 2 g_X9_beadsOf_10 := zMet_sm m_X9_beadsOf ev_X9_beadsOf_10
noncomputable def h0_X9_beadsOf_11 : zH 1 := (show zT 1 from ((25, 63, bg_0), (0, 66, bg_5)), (2, (0, 0)))
noncomputable def h1_X9_beadsOf_11 : zH 1 := (show zT 1 from ((25, 63, bg_0), (0, 66, bg_5)), (2, (0, 0)))
theorem ev_X9_beadsOf_11 : f_X9_beadsOf [zR 1, zI 0] h0_X9_beadsOf_11 (zrk (zI 1055) h1_X9_beadsOf_11) = true := by decide +kernel
noncomputable def g_X9_beadsOf_11 {d : Nat} : List zV → zH d → zP d → Bool := zsmy [(0, 0), (1, 3)] [zR 1, zI 0] h0_X9_beadsOf_11 (zI 1055) h1_X9_beadsOf_11
theorem mg_X9_beadsOf_11 {d : Nat} : zMet (d := d) X_X9_beadsOf yX9_beadsOf 2 g_X9_beadsOf_11 := zMet_sm m_X9_beadsOf ev_X9_beadsOf_11
noncomputable def h0_X9_beadsOf_12 : zH 1 := (show zT 1 from ((25, 63, bg_0), (0, 66, bg_5)), (2, (0, 0)))
noncomputable def h1_X9_beadsOf_12 : zH 1 := (show zT 1 from ((25, 63, bg_0), (0, 66, bg_5)), (2, (0, 0)))
theorem ev_X9_beadsOf_12 : f_X9_beadsOf [zR 1, zI 1] h0_X9_beadsOf_12 (zrk (zI 559) h1_X9_beadsOf_12) = true := by decide +kernel
noncomputable def g_X9_beadsOf_12 {d : Nat} : List zV → zH d → zP d → Bool := zsmy [(0, 0), (1, 3)] [zR 1, zI 1] h0_X9_beadsOf_12 (zI 559) h1_X9_beadsOf_12
theorem mg_X9_beadsOf_12 {d : Nat} : zMet (d := d) X_X9_beadsOf yX9_beadsOf 2 g_X9_beadsOf_12 := zMet_sm m_X9_beadsOf ev_X9_beadsOf_12
noncomputable def h0_X9_beadsOf_13 : zH 1 := (show zT 1 from ((25, 63, bg_0), (0, 66, bg_5)), (2, (0, 0)))
noncomputable def h1_X9_beadsOf_13 : zH 1 := (show zT 1 from ((25, 63, bg_0), (0, 66, bg_5)), (2, (0, 0)))
theorem ev_X9_beadsOf_13 : f_X9_beadsOf [zR 1, zI 2] h0_X9_beadsOf_13 (zrk (zI 335) h1_X9_beadsOf_13) = true := by decide +kernel
noncomputable def g_X9_beadsOf_13 {d : Nat} : List zV → zH d → zP d → Bool := zsmy [(0, 0), (1, 3)] [zR 1, zI 2] h0_X9_beadsOf_13 (zI 335) h1_X9_beadsOf_13
theorem mg_X9_beadsOf_13 {d : Nat} : zMet (d := d) X_X9_beadsOf yX9_beadsOf 2 g_X9_beadsOf_13 := zMet_sm m_X9_beadsOf ev_X9_beadsOf_13
noncomputable def h0_X9_beadsOf_14 : zH 1 := (show zT 1 from ((25, 63, bg_0), (0, 66, bg_5)), (2, (0, 0)))
noncomputable def h1_X9_beadsOf_14 : zH 1 := (show zT 1 from ((25, 63, bg_0), (0, 66, bg_5)), (2, (0, 0)))
theorem ev_X9_beadsOf_14 : f_X9_beadsOf [zR 1, zI 3] h0_X9_beadsOf_14 (zrk (zI 311) h1_X9_beadsOf_14) = true := by decide +kernel
noncomputable def g_X9_beadsOf_14 {d : Nat} : List zV → zH d → zP d → Bool := zsmy [(0, 0), (1, 3)] [zR 1, zI 3] h0_X9_beadsOf_14 (zI 311) h1_X9_beadsOf_14
theorem mg_X9_beadsOf_14 {d : Nat} : zMet (d := d) X_X9_beadsOf yX9_beadsOf 2 g_X9_beadsOf_14 := zMet_sm m_X9_beadsOf ev_X9_beadsOf_14
noncomputable def h0_X9_beadsOf_15 : zH 1 := (show zT 1 from ((25, 63, bg_0), (0, 66, bg_5)), (2, (0, 0)))
noncomputable def h1_X9_beadsOf_15 : zH 1 := (show zT 1 from ((25, 63, bg_0), (0, 66, bg_5)), (2, (0, 0)))
theorem ev_X9_beadsOf_15 : f_X9_beadsOf [zR 1, zI 4] h0_X9_beadsOf_15 (zrk (zI 215) h1_X9_beadsOf_15) = true := by decide +kernel
noncomputable def g_X9_beadsOf_15 {d : Nat} : List zV → zH d → zP d → Bool := zsmy [(0, 0), (1, 3)] [zR 1, zI 4] h0_X9_beadsOf_15 (zI 215) h1_X9_beadsOf_15
theorem mg_X9_beadsOf_15 {d : Nat} : zMet (d := d) X_X9_beadsOf yX9_beadsOf 2 g_X9_beadsOf_15 := zMet_sm m_X9_beadsOf ev_X9_beadsOf_15
noncomputable def h0_X9_beadsOf_16 : zH 1 := (show zT 1 from ((25, 63, bg_0), (0, 66, bg_5)), (2, (0, 0)))
noncomputable def h1_X9_beadsOf_16 : zH 1 := (show zT 1 from ((25, 63, bg_0), (0, 66, bg_5)), (2, (0, 0)))
theorem ev_X9_beadsOf_16 : f_X9_beadsOf [zR 1, zI 5] h0_X9_beadsOf_16 (zrk (zI 187) h1_X9_beadsOf_16) = true := by decide +kernel
noncomputable def g_X9_beadsOf_16 {d : Nat} : List zV → zH d → zP d → Bool := zsmy [(0, 0), (1, 3)] [zR 1, zI 5] h0_X9_beadsOf_16 (zI 187) h1_X9_beadsOf_16
theorem mg_X9_beadsOf_16 {d : Nat} : zMet (d := d) X_X9_beadsOf yX9_beadsOf 2 g_X9_beadsOf_16 := zMet_sm m_X9_beadsOf ev_X9_beadsOf_16
noncomputable def h0_X9_beadsOf_17 : zH 1 := (show zT 1 from ((25, 63, bg_0), (0, 66, bg_5)), (2, (0, 0)))
noncomputable def h1_X9_beadsOf_17 : zH 1 := (show zT 1 from ((25, 63, bg_0), (0, 66, bg_5)), (2, (0, 0)))
theorem ev_X9_beadsOf_17 : f_X9_beadsOf [zR 1, zI 6] h0_X9_beadsOf_17 (zrk (zI 125) h1_X9_beadsOf_17) = true := by decide +kernel
noncomputable def g_X9_beadsOf_17 {d : Nat} : List zV → zH d → zP d → Bool := zsmy [(0, 0), (1, 3)] [zR 1, zI 6] h0_X9_beadsOf_17 (zI 125) h1_X9_beadsOf_17
theorem mg_X9_beadsOf_17 {d : Nat} : zMet (d := d) X_X9_beadsOf yX9_beadsOf 2 g_X9_beadsOf_17 := zMet_sm m_X9_beadsOf ev_X9_beadsOf_17
noncomputable def h0_X9_beadsOf_18 : zH 1 := (show zT 1 from ((25, 63, bg_0), (0, 66, bg_6)), (2, (0, 0)))
noncomputable def h1_X9_beadsOf_18 : zH 1 := (show zT 1 from ((25, 63, bg_0), (0, 66, bg_6)), (2, (0, 0)))
theorem ev_X9_beadsOf_18 : f_X9_beadsOf [zR 1, zI 0] h0_X9_beadsOf_18 (zrk (zI 2079) h1_X9_beadsOf_18) = true := by decide +kernel
noncomputable def g_X9_beadsOf_18 {d : Nat} : List zV → zH d → zP d → Bool := zsmy [(0, 0), (1, 3)] [zR 1, zI 0] h0_X9_beadsOf_18 (zI 2079) h1_X9_beadsOf_18
theorem mg_X9_beadsOf_18 {d : Nat} : zMet (d := d) X_X9_beadsOf yX9_beadsOf 2 g_X9_beadsOf_18 := zMet_sm m_X9_beadsOf ev_X9_beadsOf_18
noncomputable def h0_X9_beadsOf_19 : zH 1 := (show zT 1 from ((25, 63, bg_0), (0, 66, bg_6)), (2, (0, 0)))
noncomputable def h1_X9_beadsOf_19 : zH 1 := (show zT 1 from ((25, 63, bg_0), (0, 66, bg_6)), (2, (0, 0)))
theorem ev_X9_beadsOf_19 : f_X9_beadsOf [zR 1, zI 1] h0_X9_beadsOf_19 (zrk (zI 1071) h1_X9_beadsOf_19) = true := by decide +kernel
noncomputable def g_X9_beadsOf_19 {d : Nat} : List zV → zH d → zP d → Bool := zsmy [(0, 0), (1, 3)] [zR 1, zI 1] h0_X9_beadsOf_19 (zI 1071) h1_X9_beadsOf_19
theorem mg_X9_beadsOf_19 {d : Nat} : zMet (d := d) X_X9_beadsOf yX9_beadsOf 2 g_X9_beadsOf_19 := zMet_sm m_X9_beadsOf ev_X9_beadsOf_19
noncomputable def h0_X9_beadsOf_20 : zH 1 := (show zT 1 from ((25, 63, bg_0), (0, 66, bg_6)), (2, (0, 0)))
noncomputable def h1_X9_beadsOf_20 : zH 1 := (show zT 1 from ((25, 63, bg_0), (0, 66, bg_6)), (2, (0, 0)))
theorem ev_X9_beadsOf_20 : f_X9_beadsOf [zR 1, zI 2] h0_X9_beadsOf_20 (zrk (zI 591) h1_X9_beadsOf_20) = true := by decide +kernel
noncomputable def g_X9_beadsOf_20 {d : Nat} : List zV → zH d → zP d → Bool := zsmy [(0, 0), (1, 3)] [zR 1, zI 2] h0_X9_beadsOf_20 (zI 591) h1_X9_beadsOf_20
theorem mg_X9_beadsOf_20 {d : Nat} : zMet (d := d) X_X9_beadsOf yX9_beadsOf 2 g_X9_beadsOf_20 := zMet_sm m_X9_beadsOf ev_X9_beadsOf_20
noncomputable def h0_X9_beadsOf_21 : zH 1 := (show zT 1 from ((25, 63, bg_0), (0, 66, bg_6)), (2, (0, 0)))
noncomputable def h1_X9_beadsOf_21 : zH 1 := (show zT 1 from ((25, 63, bg_0), (0, 66, bg_6)), (2, (0, 0)))
theorem ev_X9_beadsOf_21 : f_X9_beadsOf [zR 1, zI 3] h0_X9_beadsOf_21 (zrk (zI 567) h1_X9_beadsOf_21) = true := by decide +kernel
noncomputable def g_X9_beadsOf_21 {d : Nat} : List zV → zH d → zP d → Bool := zsmy [(0, 0), (1, 3)] [zR 1, zI 3] h0_X9_beadsOf_21 (zI 567) h1_X9_beadsOf_21
theorem mg_X9_beadsOf_21 {d : Nat} : zMet (d := d) X_X9_beadsOf yX9_beadsOf 2 g_X9_beadsOf_21 := zMet_sm m_X9_beadsOf ev_X9_beadsOf_21
noncomputable def h0_X9_beadsOf_22 : zH 1 := (show zT 1 from ((25, 63, bg_0), (0, 66, bg_6)), (2, (0, 0)))
noncomputable def h1_X9_beadsOf_22 : zH 1 := (show zT 1 from ((25, 63, bg_0), (0, 66, bg_6)), (2, (0, 0)))
theorem ev_X9_beadsOf_22 : f_X9_beadsOf [zR 1, zI 4] h0_X9_beadsOf_22 (zrk (zI 399) h1_X9_beadsOf_22) = true := by decide +kernel
noncomputable def g_X9_beadsOf_22 {d : Nat} : List zV → zH d → zP d → Bool := zsmy [(0, 0), (1, 3)] [zR 1, zI 4] h0_X9_beadsOf_22 (zI 399) h1_X9_beadsOf_22
theorem mg_X9_beadsOf_22 {d : Nat} : zMet (d := d) X_X9_beadsOf yX9_beadsOf 2 g_X9_beadsOf_22 := zMet_sm m_X9_beadsOf ev_X9_beadsOf_22
noncomputable def h0_X9_beadsOf_23 : zH 1 := (show zT 1 from ((25, 63, bg_0), (0, 66, bg_6)), (2, (0, 0)))
noncomputable def h1_X9_beadsOf_23 : zH 1 := (show zT 1 from ((25, 63, bg_0), (0, 66, bg_6)), (2, (0, 0)))
theorem ev_X9_beadsOf_23 : f_X9_beadsOf [zR 1, zI 5] h0_X9_beadsOf_23 (zrk (zI 343) h1_X9_beadsOf_23) = true := by decide +kernel
noncomputable def g_X9_beadsOf_23 {d : Nat} : List zV → zH d → zP d → Bool := zsmy [(0, 0), (1, 3)] [zR 1, zI 5] h0_X9_beadsOf_23 (zI 343) h1_X9_beadsOf_23
theorem mg_X9_beadsOf_23 {d : Nat} : zMet (d := d) X_X9_beadsOf yX9_beadsOf 2 g_X9_beadsOf_23 := zMet_sm m_X9_beadsOf ev_X9_beadsOf_23
noncomputable def h0_X9_beadsOf_24 : zH 1 := (show zT 1 from ((25, 63, bg_0), (0, 66, bg_6)), (2, (0, 0)))
noncomputable def h1_X9_beadsOf_24 : zH 1 := (show zT 1 from ((25, 63, bg_0), (0, 66, bg_6)), (2, (0, 0)))
theorem ev_X9_beadsOf_24 : f_X9_beadsOf [zR 1, zI 6] h0_X9_beadsOf_24 (zrk (zI 315) h1_X9_beadsOf_24) = true := by decide +kernel
noncomputable def g_X9_beadsOf_24 {d : Nat} : List zV → zH d → zP d → Bool := zsmy [(0, 0), (1, 3)] [zR 1, zI 6] h0_X9_beadsOf_24 (zI 315) h1_X9_beadsOf_24
theorem mg_X9_beadsOf_24 {d : Nat} : zMet (d := d) X_X9_beadsOf yX9_beadsOf 2 g_X9_beadsOf_24 := zMet_sm m_X9_beadsOf ev_X9_beadsOf_24
noncomputable def h0_X9_beadsOf_25 : zH 1 := (show zT 1 from ((25, 63, bg_0), (0, 66, bg_6)), (2, (0, 0)))
noncomputable def h1_X9_beadsOf_25 : zH 1 := (show zT 1 from ((25, 63, bg_0), (0, 66, bg_6)), (2, (0, 0)))
theorem ev_X9_beadsOf_25 : f_X9_beadsOf [zR 1, zI 7] h0_X9_beadsOf_25 (zrk (zI 231) h1_X9_beadsOf_25) = true := by decide +kernel
noncomputable def g_X9_beadsOf_25 {d : Nat} : List zV → zH d → zP d → Bool := zsmy [(0, 0), (1, 3)] [zR 1, zI 7] h0_X9_beadsOf_25 (zI 231) h1_X9_beadsOf_25
theorem mg_X9_beadsOf_25 {d : Nat} : zMet (d := d) X_X9_beadsOf yX9_beadsOf 2 g_X9_beadsOf_25 := zMet_sm m_X9_beadsOf ev_X9_beadsOf_25
noncomputable def h0_X9_beadsOf_26 : zH 1 := (show zT 1 from ((25, 63, bg_0), (0, 66, bg_6)), (2, (0, 0)))
noncomputable def h1_X9_beadsOf_26 : zH 1 := (show zT 1 from ((25, 63, bg_0), (0, 66, bg_6)), (2, (0, 0)))
theorem ev_X9_beadsOf_26 : f_X9_beadsOf [zR 1, zI 8] h0_X9_beadsOf_26 (zrk (zI 219) h1_X9_beadsOf_26) = true := by decide +kernel
noncomputable def g_X9_beadsOf_26 {d : Nat} : List zV → zH d → zP d → Bool := zsmy [(0, 0), (1, 3)] [zR 1, zI 8] h0_X9_beadsOf_26 (zI 219) h1_X9_beadsOf_26
theorem mg_X9_beadsOf_26 {d : Nat} : zMet (d := d) X_X9_beadsOf yX9_beadsOf 2 g_X9_beadsOf_26 := zMet_sm m_X9_beadsOf ev_X9_beadsOf_26
noncomputable def h0_X9_beadsOf_27 : zH 1 := (show zT 1 from ((25, 63, bg_0), (0, 66, bg_6)), (2, (0, 0)))
noncomputable def h1_X9_beadsOf_27 : zH 1 := (show zT 1 from ((25, 63, bg_0), (0, 66, bg_6)), (2, (0, 0)))
theorem ev_X9_beadsOf_27 : f_X9_beadsOf [zR 1, zI 9] h0_X9_beadsOf_27 (zrk (zI 189) h1_X9_beadsOf_27) = true := by decide +kernel
noncomputable def g_X9_beadsOf_27 {d : Nat} : List zV → zH d → zP d → Bool := zsmy [(0, 0), (1, 3)] [zR 1, zI 9] h0_X9_beadsOf_27 (zI 189) h1_X9_beadsOf_27
theorem mg_X9_beadsOf_27 {d : Nat} : zMet (d := d) X_X9_beadsOf yX9_beadsOf 2 g_X9_beadsOf_27 := zMet_sm m_X9_beadsOf ev_X9_beadsOf_27
noncomputable def h0_X9_beadsOf_28 : zH 1 := (show zT 1 from ((25, 63, bg_0), (0, 66, bg_6)), (2, (0, 0)))
noncomputable def h1_X9_beadsOf_28 : zH 1 := (show zT 1 from ((25, 63, bg_0), (0, 66, bg_6)), (2, (0, 0)))
theorem ev_X9_beadsOf_28 : f_X9_beadsOf [zR 1, zI 10] h0_X9_beadsOf_28 (zrk (zI 126) h1_X9_beadsOf_28) = true := by decide +kernel
noncomputable def g_X9_beadsOf_28 {d : Nat} : List zV → zH d → zP d → Bool := zsmy [(0, 0), (1, 3)] [zR 1, zI 10] h0_X9_beadsOf_28 (zI 126) h1_X9_beadsOf_28
theorem mg_X9_beadsOf_28 {d : Nat} : zMet (d := d) X_X9_beadsOf yX9_beadsOf 2 g_X9_beadsOf_28 := zMet_sm m_X9_beadsOf ev_X9_beadsOf_28
set_option maxRecDepth 100000 in
noncomputable def gs_X9_beadsOf {d : Nat} : List zV → zH d → zP d → Bool := zwt (hsK (hsF 0 [] 0) (hsL 1)) [(2049, g_X9_beadsOf_0), (3073, g_X9_beadsOf_1), (3074, g_X9_beadsOf_2), (4097, g_X9_beadsOf_3), (4098, g_X9_beadsOf_4), (4099, g_X9_beadsOf_5), (5121, g_X9_beadsOf_6), (5122, g_X9_beadsOf_7), (5123, g_X9_beadsOf_8), (5124, g_X9_beadsOf_9), (5125, g_X9_beadsOf_10), (6145, g_X9_beadsOf_11), (6146, g_X9_beadsOf_12), (6147, g_X9_beadsOf_13), (6148, g_X9_beadsOf_14), (6149, g_X9_beadsOf_15), (6150, g_X9_beadsOf_16), (6151, g_X9_beadsOf_17), (7169, g_X9_beadsOf_18), (7170, g_X9_beadsOf_19), (7171, g_X9_beadsOf_20), (7172, g_X9_beadsOf_21), (7173, g_X9_beadsOf_22), (7174, g_X9_beadsOf_23), (7175, g_X9_beadsOf_24), (7176, g_X9_beadsOf_25), (7177, g_X9_beadsOf_26), (7178, g_X9_beadsOf_27), (7179, g_X9_beadsOf_28)]
set_option maxRecDepth 100000 in
theorem mgs_X9_beadsOf {d : Nat} : zMet (d := d) X_X9_beadsOf yX9_beadsOf 2 gs_X9_beadsOf := zMet_wt (hsK_ok hsF_ok hsL_ok) (zwt_c mg_X9_beadsOf_0 (zwt_c mg_X9_beadsOf_1 (zwt_c mg_X9_beadsOf_2 (zwt_c mg_X9_beadsOf_3 (zwt_c mg_X9_beadsOf_4 (zwt_c mg_X9_beadsOf_5 (zwt_c mg_X9_beadsOf_6 (zwt_c mg_X9_beadsOf_7 (zwt_c mg_X9_beadsOf_8 (zwt_c mg_X9_beadsOf_9 (zwt_c mg_X9_beadsOf_10 (zwt_c mg_X9_beadsOf_11 (zwt_c mg_X9_beadsOf_12 (zwt_c mg_X9_beadsOf_13 (zwt_c mg_X9_beadsOf_14 (zwt_c mg_X9_beadsOf_15 (zwt_c mg_X9_beadsOf_16 (zwt_c mg_X9_beadsOf_17 (zwt_c mg_X9_beadsOf_18 (zwt_c mg_X9_beadsOf_19 (zwt_c mg_X9_beadsOf_20 (zwt_c mg_X9_beadsOf_21 (zwt_c mg_X9_beadsOf_22 (zwt_c mg_X9_beadsOf_23 (zwt_c mg_X9_beadsOf_24 (zwt_c mg_X9_beadsOf_25 (zwt_c mg_X9_beadsOf_26 (zwt_c mg_X9_beadsOf_27 (zwt_c mg_X9_beadsOf_28 zwt_n)))))))))))))))))))))))))))))
