/-! the class by summaries, by program -/
noncomputable def h0_X8_greatestDivisor_0 : zH 0 := (show zT 0 from (0, 0, 0), (0, (0, 0)))
noncomputable def h1_X8_greatestDivisor_0 : zH 0 := (show zT 0 from (0, 0, 0), (0, (0, 0)))
theorem ev_X8_greatestDivisor_0 : f_X8_greatestDivisor [zL 1, zL 1] h0_X8_greatestDivisor_0 (zrk (zL 1) h1_X8_greatestDivisor_0) = true := by decide +kernel
noncomputable def g_X8_greatestDivisor_0 {d : Nat} : List zV → zH d → zP d → Bool := zsmy [] [zL 1, zL 1] h0_X8_greatestDivisor_0 (zL 1) h1_X8_greatestDivisor_0
theorem mg_X8_greatestDivisor_0 {d : Nat} : zMet (d := d) X_X8_greatestDivisor yX8_greatestDivisor 1 g_X8_greatestDivisor_0 := zMet_sm m_X8_greatestDivisor ev_X8_greatestDivisor_0
noncomputable def h0_X8_greatestDivisor_1 : zH 0 := (show zT 0 from (0, 0, 0), (0, (0, 0)))
noncomputable def h1_X8_greatestDivisor_1 : zH 0 := (show zT 0 from (0, 0, 0), (0, (0, 0)))
theorem ev_X8_greatestDivisor_1 : f_X8_greatestDivisor [zL 1, zL 2] h0_X8_greatestDivisor_1 (zrk (zL 1) h1_X8_greatestDivisor_1) = true := by decide +kernel
noncomputable def g_X8_greatestDivisor_1 {d : Nat} : List zV → zH d → zP d → Bool := zsmy [] [zL 1, zL 2] h0_X8_greatestDivisor_1 (zL 1) h1_X8_greatestDivisor_1
theorem mg_X8_greatestDivisor_1 {d : Nat} : zMet (d := d) X_X8_greatestDivisor yX8_greatestDivisor 1 g_X8_greatestDivisor_1 := zMet_sm m_X8_greatestDivisor ev_X8_greatestDivisor_1
noncomputable def h0_X8_greatestDivisor_2 : zH 0 := (show zT 0 from (0, 0, 0), (0, (0, 0)))
noncomputable def h1_X8_greatestDivisor_2 : zH 0 := (show zT 0 from (0, 0, 0), (0, (0, 0)))
theorem ev_X8_greatestDivisor_2 : f_X8_greatestDivisor [zL 1, zL 3] h0_X8_greatestDivisor_2 (zrk (zL 1) h1_X8_greatestDivisor_2) = true := by decide +kernel
noncomputable def g_X8_greatestDivisor_2 {d : Nat} : List zV → zH d → zP d → Bool := zsmy [] [zL 1, zL 3] h0_X8_greatestDivisor_2 (zL 1) h1_X8_greatestDivisor_2
theorem mg_X8_greatestDivisor_2 {d : Nat} : zMet (d := d) X_X8_greatestDivisor yX8_greatestDivisor 1 g_X8_greatestDivisor_2 := zMet_sm m_X8_greatestDivisor ev_X8_greatestDivisor_2
noncomputable def h0_X8_greatestDivisor_3 : zH 0 := (show zT 0 from (0, 0, 0), (0, (0, 0)))
noncomputable def h1_X8_greatestDivisor_3 : zH 0 := (show zT 0 from (0, 0, 0), (0, (0, 0)))
theorem ev_X8_greatestDivisor_3 : f_X8_greatestDivisor [zL 1, zL 4] h0_X8_greatestDivisor_3 (zrk (zL 1) h1_X8_greatestDivisor_3) = true := by decide +kernel
noncomputable def g_X8_greatestDivisor_3 {d : Nat} : List zV → zH d → zP d → Bool := zsmy [] [zL 1, zL 4] h0_X8_greatestDivisor_3 (zL 1) h1_X8_greatestDivisor_3
theorem mg_X8_greatestDivisor_3 {d : Nat} : zMet (d := d) X_X8_greatestDivisor yX8_greatestDivisor 1 g_X8_greatestDivisor_3 := zMet_sm m_X8_greatestDivisor ev_X8_greatestDivisor_3
noncomputable def h0_X8_greatestDivisor_4 : zH 0 := (show zT 0 from (0, 0, 0), (0, (0, 0)))
noncomputable def h1_X8_greatestDivisor_4 : zH 0 := (show zT 0 from (0, 0, 0), (0, (0, 0)))
theorem ev_X8_greatestDivisor_4 : f_X8_greatestDivisor [zL 1, zL 5] h0_X8_greatestDivisor_4 (zrk (zL 1) h1_X8_greatestDivisor_4) = true := by decide +kernel
noncomputable def g_X8_greatestDivisor_4 {d : Nat} : List zV → zH d → zP d → Bool := zsmy [] [zL 1, zL 5] h0_X8_greatestDivisor_4 (zL 1) h1_X8_greatestDivisor_4
theorem mg_X8_greatestDivisor_4 {d : Nat} : zMet (d := d) X_X8_greatestDivisor yX8_greatestDivisor 1 g_X8_greatestDivisor_4 := zMet_sm m_X8_greatestDivisor ev_X8_greatestDivisor_4
noncomputable def h0_X8_greatestDivisor_5 : zH 0 := (show zT 0 from (0, 0, 0), (0, (0, 0)))
noncomputable def h1_X8_greatestDivisor_5 : zH 0 := (show zT 0 from (0, 0, 0), (0, (0, 0)))
theorem ev_X8_greatestDivisor_5 : f_X8_greatestDivisor [zL 1, zL 6] h0_X8_greatestDivisor_5 (zrk (zL 1) h1_X8_greatestDivisor_5) = true := by decide +kernel
noncomputable def g_X8_greatestDivisor_5 {d : Nat} : List zV → zH d → zP d → Bool := zsmy [] [zL 1, zL 6] h0_X8_greatestDivisor_5 (zL 1) h1_X8_greatestDivisor_5
theorem mg_X8_greatestDivisor_5 {d : Nat} : zMet (d := d) X_X8_greatestDivisor yX8_greatestDivisor 1 g_X8_greatestDivisor_5 := zMet_sm m_X8_greatestDivisor ev_X8_greatestDivisor_5
noncomputable def h0_X8_greatestDivisor_6 : zH 0 := (show zT 0 from (0, 0, 0), (0, (0, 0)))
noncomputable def h1_X8_greatestDivisor_6 : zH 0 := (show zT 0 from (0, 0, 0), (0, (0, 0)))
theorem ev_X8_greatestDivisor_6 : f_X8_greatestDivisor [zL 2, zL 1] h0_X8_greatestDivisor_6 (zrk (zL 1) h1_X8_greatestDivisor_6) = true := by decide +kernel
noncomputable def g_X8_greatestDivisor_6 {d : Nat} : List zV → zH d → zP d → Bool := zsmy [] [zL 2, zL 1] h0_X8_greatestDivisor_6 (zL 1) h1_X8_greatestDivisor_6
theorem mg_X8_greatestDivisor_6 {d : Nat} : zMet (d := d) X_X8_greatestDivisor yX8_greatestDivisor 1 g_X8_greatestDivisor_6 := zMet_sm m_X8_greatestDivisor ev_X8_greatestDivisor_6
noncomputable def h0_X8_greatestDivisor_7 : zH 0 := (show zT 0 from (0, 0, 0), (0, (0, 0)))
noncomputable def h1_X8_greatestDivisor_7 : zH 0 := (show zT 0 from (0, 0, 0), (0, (0, 0)))
theorem ev_X8_greatestDivisor_7 : f_X8_greatestDivisor [zL 2, zL 2] h0_X8_greatestDivisor_7 (zrk (zL 2) h1_X8_greatestDivisor_7) = true := by decide +kernel
noncomputable def g_X8_greatestDivisor_7 {d : Nat} : List zV → zH d → zP d → Bool := zsmy [] [zL 2, zL 2] h0_X8_greatestDivisor_7 (zL 2) h1_X8_greatestDivisor_7
theorem mg_X8_greatestDivisor_7 {d : Nat} : zMet (d := d) X_X8_greatestDivisor yX8_greatestDivisor 1 g_X8_greatestDivisor_7 := zMet_sm m_X8_greatestDivisor ev_X8_greatestDivisor_7
noncomputable def h0_X8_greatestDivisor_8 : zH 0 := (show zT 0 from (0, 0, 0), (0, (0, 0)))
noncomputable def h1_X8_greatestDivisor_8 : zH 0 := (show zT 0 from (0, 0, 0), (0, (0, 0)))
theorem ev_X8_greatestDivisor_8 : f_X8_greatestDivisor [zL 2, zL 3] h0_X8_greatestDivisor_8 (zrk (zL 1) h1_X8_greatestDivisor_8) = true := by decide +kernel
noncomputable def g_X8_greatestDivisor_8 {d : Nat} : List zV → zH d → zP d → Bool := zsmy [] [zL 2, zL 3] h0_X8_greatestDivisor_8 (zL 1) h1_X8_greatestDivisor_8
theorem mg_X8_greatestDivisor_8 {d : Nat} : zMet (d := d) X_X8_greatestDivisor yX8_greatestDivisor 1 g_X8_greatestDivisor_8 := zMet_sm m_X8_greatestDivisor ev_X8_greatestDivisor_8
noncomputable def h0_X8_greatestDivisor_9 : zH 0 := (show zT 0 from (0, 0, 0), (0, (0, 0)))
noncomputable def h1_X8_greatestDivisor_9 : zH 0 := (show zT 0 from (0, 0, 0), (0, (0, 0)))
theorem ev_X8_greatestDivisor_9 : f_X8_greatestDivisor [zL 2, zL 4] h0_X8_greatestDivisor_9 (zrk (zL 2) h1_X8_greatestDivisor_9) = true := by decide +kernel
noncomputable def g_X8_greatestDivisor_9 {d : Nat} : List zV → zH d → zP d → Bool := zsmy [] [zL 2, zL 4] h0_X8_greatestDivisor_9 (zL 2) h1_X8_greatestDivisor_9
theorem mg_X8_greatestDivisor_9 {d : Nat} : zMet (d := d) X_X8_greatestDivisor yX8_greatestDivisor 1 g_X8_greatestDivisor_9 := zMet_sm m_X8_greatestDivisor ev_X8_greatestDivisor_9
noncomputable def h0_X8_greatestDivisor_10 : zH 0 := (show zT 0 from (0, 0, 0), (0, (0, 0)))
noncomputable def h1_X8_greatestDivisor_10 : zH 0 := (show zT 0 from (0, 0, 0), (0, (0, 0)))
theorem ev_X8_greatestDivisor_10 : f_X8_greatestDivisor [zL 2, zL 5] h0_X8_greatestDivisor_10 (zrk (zL 1) h1_X8_greatestDivisor_10) = true := by decide +kernel
noncomputable def g_X8_greatestDivisor_10 {d : Nat} : List zV → zH d → zP d → Bool := zsmy [] [zL 2, zL 5] h0_X8_greatestDivisor_10 (zL 1) h1_X8_greatestDivisor_10
theorem mg_X8_greatestDivisor_10 {d : Nat} : zMet (d := d) X_X8_greatestDivisor yX8_greatestDivisor 1 g_X8_greatestDivisor_10 := zMet_sm m_X8_greatestDivisor ev_X8_greatestDivisor_10
noncomputable def h0_X8_greatestDivisor_11 : zH 0 := (show zT 0 from (0, 0, 0), (0, (0, 0)))
noncomputable def h1_X8_greatestDivisor_11 : zH 0 := (show zT 0 from (0, 0, 0), (0, (0, 0)))
theorem ev_X8_greatestDivisor_11 : f_X8_greatestDivisor [zL 2, zL 6] h0_X8_greatestDivisor_11 (zrk (zL 2) h1_X8_greatestDivisor_11) = true := by decide +kernel
noncomputable def g_X8_greatestDivisor_11 {d : Nat} : List zV → zH d → zP d → Bool := zsmy [] [zL 2, zL 6] h0_X8_greatestDivisor_11 (zL 2) h1_X8_greatestDivisor_11
theorem mg_X8_greatestDivisor_11 {d : Nat} : zMet (d := d) X_X8_greatestDivisor yX8_greatestDivisor 1 g_X8_greatestDivisor_11 := zMet_sm m_X8_greatestDivisor ev_X8_greatestDivisor_11
noncomputable def h0_X8_greatestDivisor_12 : zH 0 := (show zT 0 from (0, 0, 0), (0, (0, 0)))
noncomputable def h1_X8_greatestDivisor_12 : zH 0 := (show zT 0 from (0, 0, 0), (0, (0, 0)))
theorem ev_X8_greatestDivisor_12 : f_X8_greatestDivisor [zL 3, zL 1] h0_X8_greatestDivisor_12 (zrk (zL 1) h1_X8_greatestDivisor_12) = true := by decide +kernel
noncomputable def g_X8_greatestDivisor_12 {d : Nat} : List zV → zH d → zP d → Bool := zsmy [] [zL 3, zL 1] h0_X8_greatestDivisor_12 (zL 1) h1_X8_greatestDivisor_12
theorem mg_X8_greatestDivisor_12 {d : Nat} : zMet (d := d) X_X8_greatestDivisor yX8_greatestDivisor 1 g_X8_greatestDivisor_12 := zMet_sm m_X8_greatestDivisor ev_X8_greatestDivisor_12
noncomputable def h0_X8_greatestDivisor_13 : zH 0 := (show zT 0 from (0, 0, 0), (0, (0, 0)))
noncomputable def h1_X8_greatestDivisor_13 : zH 0 := (show zT 0 from (0, 0, 0), (0, (0, 0)))
theorem ev_X8_greatestDivisor_13 : f_X8_greatestDivisor [zL 3, zL 2] h0_X8_greatestDivisor_13 (zrk (zL 1) h1_X8_greatestDivisor_13) = true := by decide +kernel
noncomputable def g_X8_greatestDivisor_13 {d : Nat} : List zV → zH d → zP d → Bool := zsmy [] [zL 3, zL 2] h0_X8_greatestDivisor_13 (zL 1) h1_X8_greatestDivisor_13
theorem mg_X8_greatestDivisor_13 {d : Nat} : zMet (d := d) X_X8_greatestDivisor yX8_greatestDivisor 1 g_X8_greatestDivisor_13 := zMet_sm m_X8_greatestDivisor ev_X8_greatestDivisor_13
noncomputable def h0_X8_greatestDivisor_14 : zH 0 := (show zT 0 from (0, 0, 0), (0, (0, 0)))
noncomputable def h1_X8_greatestDivisor_14 : zH 0 := (show zT 0 from (0, 0, 0), (0, (0, 0)))
theorem ev_X8_greatestDivisor_14 : f_X8_greatestDivisor [zL 3, zL 3] h0_X8_greatestDivisor_14 (zrk (zL 3) h1_X8_greatestDivisor_14) = true := by decide +kernel
noncomputable def g_X8_greatestDivisor_14 {d : Nat} : List zV → zH d → zP d → Bool := zsmy [] [zL 3, zL 3] h0_X8_greatestDivisor_14 (zL 3) h1_X8_greatestDivisor_14
theorem mg_X8_greatestDivisor_14 {d : Nat} : zMet (d := d) X_X8_greatestDivisor yX8_greatestDivisor 1 g_X8_greatestDivisor_14 := zMet_sm m_X8_greatestDivisor ev_X8_greatestDivisor_14
noncomputable def h0_X8_greatestDivisor_15 : zH 0 := (show zT 0 from (0, 0, 0), (0, (0, 0)))
noncomputable def h1_X8_greatestDivisor_15 : zH 0 := (show zT 0 from (0, 0, 0), (0, (0, 0)))
theorem ev_X8_greatestDivisor_15 : f_X8_greatestDivisor [zL 3, zL 4] h0_X8_greatestDivisor_15 (zrk (zL 1) h1_X8_greatestDivisor_15) = true := by decide +kernel
noncomputable def g_X8_greatestDivisor_15 {d : Nat} : List zV → zH d → zP d → Bool := zsmy [] [zL 3, zL 4] h0_X8_greatestDivisor_15 (zL 1) h1_X8_greatestDivisor_15
theorem mg_X8_greatestDivisor_15 {d : Nat} : zMet (d := d) X_X8_greatestDivisor yX8_greatestDivisor 1 g_X8_greatestDivisor_15 := zMet_sm m_X8_greatestDivisor ev_X8_greatestDivisor_15
noncomputable def h0_X8_greatestDivisor_16 : zH 0 := (show zT 0 from (0, 0, 0), (0, (0, 0)))
noncomputable def h1_X8_greatestDivisor_16 : zH 0 := (show zT 0 from (0, 0, 0), (0, (0, 0)))
theorem ev_X8_greatestDivisor_16 : f_X8_greatestDivisor [zL 3, zL 5] h0_X8_greatestDivisor_16 (zrk (zL 1) h1_X8_greatestDivisor_16) = true := by decide +kernel
noncomputable def g_X8_greatestDivisor_16 {d : Nat} : List zV → zH d → zP d → Bool := zsmy [] [zL 3, zL 5] h0_X8_greatestDivisor_16 (zL 1) h1_X8_greatestDivisor_16
theorem mg_X8_greatestDivisor_16 {d : Nat} : zMet (d := d) X_X8_greatestDivisor yX8_greatestDivisor 1 g_X8_greatestDivisor_16 := zMet_sm m_X8_greatestDivisor ev_X8_greatestDivisor_16
noncomputable def h0_X8_greatestDivisor_17 : zH 0 := (show zT 0 from (0, 0, 0), (0, (0, 0)))
noncomputable def h1_X8_greatestDivisor_17 : zH 0 := (show zT 0 from (0, 0, 0), (0, (0, 0)))
theorem ev_X8_greatestDivisor_17 : f_X8_greatestDivisor [zL 3, zL 6] h0_X8_greatestDivisor_17 (zrk (zL 3) h1_X8_greatestDivisor_17) = true := by decide +kernel
noncomputable def g_X8_greatestDivisor_17 {d : Nat} : List zV → zH d → zP d → Bool := zsmy [] [zL 3, zL 6] h0_X8_greatestDivisor_17 (zL 3) h1_X8_greatestDivisor_17
theorem mg_X8_greatestDivisor_17 {d : Nat} : zMet (d := d) X_X8_greatestDivisor yX8_greatestDivisor 1 g_X8_greatestDivisor_17 := zMet_sm m_X8_greatestDivisor ev_X8_greatestDivisor_17
noncomputable def h0_X8_greatestDivisor_18 : zH 0 := (show zT 0 from (0, 0, 0), (0, (0, 0)))
noncomputable def h1_X8_greatestDivisor_18 : zH 0 := (show zT 0 from (0, 0, 0), (0, (0, 0)))
theorem ev_X8_greatestDivisor_18 : f_X8_greatestDivisor [zL 4, zL 1] h0_X8_greatestDivisor_18 (zrk (zL 1) h1_X8_greatestDivisor_18) = true := by decide +kernel
noncomputable def g_X8_greatestDivisor_18 {d : Nat} : List zV → zH d → zP d → Bool := zsmy [] [zL 4, zL 1] h0_X8_greatestDivisor_18 (zL 1) h1_X8_greatestDivisor_18
theorem mg_X8_greatestDivisor_18 {d : Nat} : zMet (d := d) X_X8_greatestDivisor yX8_greatestDivisor 1 g_X8_greatestDivisor_18 := zMet_sm m_X8_greatestDivisor ev_X8_greatestDivisor_18
noncomputable def h0_X8_greatestDivisor_19 : zH 0 := (show zT 0 from (0, 0, 0), (0, (0, 0)))
noncomputable def h1_X8_greatestDivisor_19 : zH 0 := (show zT 0 from (0, 0, 0), (0, (0, 0)))
theorem ev_X8_greatestDivisor_19 : f_X8_greatestDivisor [zL 4, zL 2] h0_X8_greatestDivisor_19 (zrk (zL 2) h1_X8_greatestDivisor_19) = true := by decide +kernel
noncomputable def g_X8_greatestDivisor_19 {d : Nat} : List zV → zH d → zP d → Bool := zsmy [] [zL 4, zL 2] h0_X8_greatestDivisor_19 (zL 2) h1_X8_greatestDivisor_19
theorem mg_X8_greatestDivisor_19 {d : Nat} : zMet (d := d) X_X8_greatestDivisor yX8_greatestDivisor 1 g_X8_greatestDivisor_19 := zMet_sm m_X8_greatestDivisor ev_X8_greatestDivisor_19
noncomputable def h0_X8_greatestDivisor_20 : zH 0 := (show zT 0 from (0, 0, 0), (0, (0, 0)))
noncomputable def h1_X8_greatestDivisor_20 : zH 0 := (show zT 0 from (0, 0, 0), (0, (0, 0)))
theorem ev_X8_greatestDivisor_20 : f_X8_greatestDivisor [zL 4, zL 3] h0_X8_greatestDivisor_20 (zrk (zL 1) h1_X8_greatestDivisor_20) = true := by decide +kernel
noncomputable def g_X8_greatestDivisor_20 {d : Nat} : List zV → zH d → zP d → Bool := zsmy [] [zL 4, zL 3] h0_X8_greatestDivisor_20 (zL 1) h1_X8_greatestDivisor_20
theorem mg_X8_greatestDivisor_20 {d : Nat} : zMet (d := d) X_X8_greatestDivisor yX8_greatestDivisor 1 g_X8_greatestDivisor_20 := zMet_sm m_X8_greatestDivisor ev_X8_greatestDivisor_20
noncomputable def h0_X8_greatestDivisor_21 : zH 0 := (show zT 0 from (0, 0, 0), (0, (0, 0)))
noncomputable def h1_X8_greatestDivisor_21 : zH 0 := (show zT 0 from (0, 0, 0), (0, (0, 0)))
theorem ev_X8_greatestDivisor_21 : f_X8_greatestDivisor [zL 4, zL 4] h0_X8_greatestDivisor_21 (zrk (zL 4) h1_X8_greatestDivisor_21) = true := by decide +kernel
noncomputable def g_X8_greatestDivisor_21 {d : Nat} : List zV → zH d → zP d → Bool := zsmy [] [zL 4, zL 4] h0_X8_greatestDivisor_21 (zL 4) h1_X8_greatestDivisor_21
theorem mg_X8_greatestDivisor_21 {d : Nat} : zMet (d := d) X_X8_greatestDivisor yX8_greatestDivisor 1 g_X8_greatestDivisor_21 := zMet_sm m_X8_greatestDivisor ev_X8_greatestDivisor_21
noncomputable def h0_X8_greatestDivisor_22 : zH 0 := (show zT 0 from (0, 0, 0), (0, (0, 0)))
noncomputable def h1_X8_greatestDivisor_22 : zH 0 := (show zT 0 from (0, 0, 0), (0, (0, 0)))
theorem ev_X8_greatestDivisor_22 : f_X8_greatestDivisor [zL 4, zL 5] h0_X8_greatestDivisor_22 (zrk (zL 1) h1_X8_greatestDivisor_22) = true := by decide +kernel
noncomputable def g_X8_greatestDivisor_22 {d : Nat} : List zV → zH d → zP d → Bool := zsmy [] [zL 4, zL 5] h0_X8_greatestDivisor_22 (zL 1) h1_X8_greatestDivisor_22
theorem mg_X8_greatestDivisor_22 {d : Nat} : zMet (d := d) X_X8_greatestDivisor yX8_greatestDivisor 1 g_X8_greatestDivisor_22 := zMet_sm m_X8_greatestDivisor ev_X8_greatestDivisor_22
noncomputable def h0_X8_greatestDivisor_23 : zH 0 := (show zT 0 from (0, 0, 0), (0, (0, 0)))
noncomputable def h1_X8_greatestDivisor_23 : zH 0 := (show zT 0 from (0, 0, 0), (0, (0, 0)))
theorem ev_X8_greatestDivisor_23 : f_X8_greatestDivisor [zL 4, zL 6] h0_X8_greatestDivisor_23 (zrk (zL 2) h1_X8_greatestDivisor_23) = true := by decide +kernel
noncomputable def g_X8_greatestDivisor_23 {d : Nat} : List zV → zH d → zP d → Bool := zsmy [] [zL 4, zL 6] h0_X8_greatestDivisor_23 (zL 2) h1_X8_greatestDivisor_23
theorem mg_X8_greatestDivisor_23 {d : Nat} : zMet (d := d) X_X8_greatestDivisor yX8_greatestDivisor 1 g_X8_greatestDivisor_23 := zMet_sm m_X8_greatestDivisor ev_X8_greatestDivisor_23
noncomputable def h0_X8_greatestDivisor_24 : zH 0 := (show zT 0 from (0, 0, 0), (0, (0, 0)))
noncomputable def h1_X8_greatestDivisor_24 : zH 0 := (show zT 0 from (0, 0, 0), (0, (0, 0)))
theorem ev_X8_greatestDivisor_24 : f_X8_greatestDivisor [zL 5, zL 1] h0_X8_greatestDivisor_24 (zrk (zL 1) h1_X8_greatestDivisor_24) = true := by decide +kernel
noncomputable def g_X8_greatestDivisor_24 {d : Nat} : List zV → zH d → zP d → Bool := zsmy [] [zL 5, zL 1] h0_X8_greatestDivisor_24 (zL 1) h1_X8_greatestDivisor_24
theorem mg_X8_greatestDivisor_24 {d : Nat} : zMet (d := d) X_X8_greatestDivisor yX8_greatestDivisor 1 g_X8_greatestDivisor_24 := zMet_sm m_X8_greatestDivisor ev_X8_greatestDivisor_24
noncomputable def h0_X8_greatestDivisor_25 : zH 0 := (show zT 0 from (0, 0, 0), (0, (0, 0)))
noncomputable def h1_X8_greatestDivisor_25 : zH 0 := (show zT 0 from (0, 0, 0), (0, (0, 0)))
theorem ev_X8_greatestDivisor_25 : f_X8_greatestDivisor [zL 5, zL 2] h0_X8_greatestDivisor_25 (zrk (zL 1) h1_X8_greatestDivisor_25) = true := by decide +kernel
noncomputable def g_X8_greatestDivisor_25 {d : Nat} : List zV → zH d → zP d → Bool := zsmy [] [zL 5, zL 2] h0_X8_greatestDivisor_25 (zL 1) h1_X8_greatestDivisor_25
theorem mg_X8_greatestDivisor_25 {d : Nat} : zMet (d := d) X_X8_greatestDivisor yX8_greatestDivisor 1 g_X8_greatestDivisor_25 := zMet_sm m_X8_greatestDivisor ev_X8_greatestDivisor_25
noncomputable def h0_X8_greatestDivisor_26 : zH 0 := (show zT 0 from (0, 0, 0), (0, (0, 0)))
noncomputable def h1_X8_greatestDivisor_26 : zH 0 := (show zT 0 from (0, 0, 0), (0, (0, 0)))
theorem ev_X8_greatestDivisor_26 : f_X8_greatestDivisor [zL 5, zL 3] h0_X8_greatestDivisor_26 (zrk (zL 1) h1_X8_greatestDivisor_26) = true := by decide +kernel
noncomputable def g_X8_greatestDivisor_26 {d : Nat} : List zV → zH d → zP d → Bool := zsmy [] [zL 5, zL 3] h0_X8_greatestDivisor_26 (zL 1) h1_X8_greatestDivisor_26
theorem mg_X8_greatestDivisor_26 {d : Nat} : zMet (d := d) X_X8_greatestDivisor yX8_greatestDivisor 1 g_X8_greatestDivisor_26 := zMet_sm m_X8_greatestDivisor ev_X8_greatestDivisor_26
noncomputable def h0_X8_greatestDivisor_27 : zH 0 := (show zT 0 from (0, 0, 0), (0, (0, 0)))
noncomputable def h1_X8_greatestDivisor_27 : zH 0 := (show zT 0 from (0, 0, 0), (0, (0, 0)))
theorem ev_X8_greatestDivisor_27 : f_X8_greatestDivisor [zL 5, zL 4] h0_X8_greatestDivisor_27 (zrk (zL 1) h1_X8_greatestDivisor_27) = true := by decide +kernel
noncomputable def g_X8_greatestDivisor_27 {d : Nat} : List zV → zH d → zP d → Bool := zsmy [] [zL 5, zL 4] h0_X8_greatestDivisor_27 (zL 1) h1_X8_greatestDivisor_27
theorem mg_X8_greatestDivisor_27 {d : Nat} : zMet (d := d) X_X8_greatestDivisor yX8_greatestDivisor 1 g_X8_greatestDivisor_27 := zMet_sm m_X8_greatestDivisor ev_X8_greatestDivisor_27
noncomputable def h0_X8_greatestDivisor_28 : zH 0 := (show zT 0 from (0, 0, 0), (0, (0, 0)))
noncomputable def h1_X8_greatestDivisor_28 : zH 0 := (show zT 0 from (0, 0, 0), (0, (0, 0)))
theorem ev_X8_greatestDivisor_28 : f_X8_greatestDivisor [zL 5, zL 5] h0_X8_greatestDivisor_28 (zrk (zL 5) h1_X8_greatestDivisor_28) = true := by decide +kernel
noncomputable def g_X8_greatestDivisor_28 {d : Nat} : List zV → zH d → zP d → Bool := zsmy [] [zL 5, zL 5] h0_X8_greatestDivisor_28 (zL 5) h1_X8_greatestDivisor_28
theorem mg_X8_greatestDivisor_28 {d : Nat} : zMet (d := d) X_X8_greatestDivisor yX8_greatestDivisor 1 g_X8_greatestDivisor_28 := zMet_sm m_X8_greatestDivisor ev_X8_greatestDivisor_28
noncomputable def h0_X8_greatestDivisor_29 : zH 0 := (show zT 0 from (0, 0, 0), (0, (0, 0)))
noncomputable def h1_X8_greatestDivisor_29 : zH 0 := (show zT 0 from (0, 0, 0), (0, (0, 0)))
theorem ev_X8_greatestDivisor_29 : f_X8_greatestDivisor [zL 5, zL 6] h0_X8_greatestDivisor_29 (zrk (zL 1) h1_X8_greatestDivisor_29) = true := by decide +kernel
noncomputable def g_X8_greatestDivisor_29 {d : Nat} : List zV → zH d → zP d → Bool := zsmy [] [zL 5, zL 6] h0_X8_greatestDivisor_29 (zL 1) h1_X8_greatestDivisor_29
theorem mg_X8_greatestDivisor_29 {d : Nat} : zMet (d := d) X_X8_greatestDivisor yX8_greatestDivisor 1 g_X8_greatestDivisor_29 := zMet_sm m_X8_greatestDivisor ev_X8_greatestDivisor_29
noncomputable def h0_X8_greatestDivisor_30 : zH 0 := (show zT 0 from (0, 0, 0), (0, (0, 0)))
noncomputable def h1_X8_greatestDivisor_30 : zH 0 := (show zT 0 from (0, 0, 0), (0, (0, 0)))
theorem ev_X8_greatestDivisor_30 : f_X8_greatestDivisor [zL 6, zL 1] h0_X8_greatestDivisor_30 (zrk (zL 1) h1_X8_greatestDivisor_30) = true := by decide +kernel
noncomputable def g_X8_greatestDivisor_30 {d : Nat} : List zV → zH d → zP d → Bool := zsmy [] [zL 6, zL 1] h0_X8_greatestDivisor_30 (zL 1) h1_X8_greatestDivisor_30
theorem mg_X8_greatestDivisor_30 {d : Nat} : zMet (d := d) X_X8_greatestDivisor yX8_greatestDivisor 1 g_X8_greatestDivisor_30 := zMet_sm m_X8_greatestDivisor ev_X8_greatestDivisor_30
noncomputable def h0_X8_greatestDivisor_31 : zH 0 := (show zT 0 from (0, 0, 0), (0, (0, 0)))
noncomputable def h1_X8_greatestDivisor_31 : zH 0 := (show zT 0 from (0, 0, 0), (0, (0, 0)))
theorem ev_X8_greatestDivisor_31 : f_X8_greatestDivisor [zL 6, zL 2] h0_X8_greatestDivisor_31 (zrk (zL 2) h1_X8_greatestDivisor_31) = true := by decide +kernel
noncomputable def g_X8_greatestDivisor_31 {d : Nat} : List zV → zH d → zP d → Bool := zsmy [] [zL 6, zL 2] h0_X8_greatestDivisor_31 (zL 2) h1_X8_greatestDivisor_31
theorem mg_X8_greatestDivisor_31 {d : Nat} : zMet (d := d) X_X8_greatestDivisor yX8_greatestDivisor 1 g_X8_greatestDivisor_31 := zMet_sm m_X8_greatestDivisor ev_X8_greatestDivisor_31
noncomputable def h0_X8_greatestDivisor_32 : zH 0 := (show zT 0 from (0, 0, 0), (0, (0, 0)))
noncomputable def h1_X8_greatestDivisor_32 : zH 0 := (show zT 0 from (0, 0, 0), (0, (0, 0)))
theorem ev_X8_greatestDivisor_32 : f_X8_greatestDivisor [zL 6, zL 3] h0_X8_greatestDivisor_32 (zrk (zL 3) h1_X8_greatestDivisor_32) = true := by decide +kernel
noncomputable def g_X8_greatestDivisor_32 {d : Nat} : List zV → zH d → zP d → Bool := zsmy [] [zL 6, zL 3] h0_X8_greatestDivisor_32 (zL 3) h1_X8_greatestDivisor_32
theorem mg_X8_greatestDivisor_32 {d : Nat} : zMet (d := d) X_X8_greatestDivisor yX8_greatestDivisor 1 g_X8_greatestDivisor_32 := zMet_sm m_X8_greatestDivisor ev_X8_greatestDivisor_32
noncomputable def h0_X8_greatestDivisor_33 : zH 0 := (show zT 0 from (0, 0, 0), (0, (0, 0)))
noncomputable def h1_X8_greatestDivisor_33 : zH 0 := (show zT 0 from (0, 0, 0), (0, (0, 0)))
theorem ev_X8_greatestDivisor_33 : f_X8_greatestDivisor [zL 6, zL 4] h0_X8_greatestDivisor_33 (zrk (zL 2) h1_X8_greatestDivisor_33) = true := by decide +kernel
noncomputable def g_X8_greatestDivisor_33 {d : Nat} : List zV → zH d → zP d → Bool := zsmy [] [zL 6, zL 4] h0_X8_greatestDivisor_33 (zL 2) h1_X8_greatestDivisor_33
theorem mg_X8_greatestDivisor_33 {d : Nat} : zMet (d := d) X_X8_greatestDivisor yX8_greatestDivisor 1 g_X8_greatestDivisor_33 := zMet_sm m_X8_greatestDivisor ev_X8_greatestDivisor_33
noncomputable def h0_X8_greatestDivisor_34 : zH 0 := (show zT 0 from (0, 0, 0), (0, (0, 0)))
noncomputable def h1_X8_greatestDivisor_34 : zH 0 := (show zT 0 from (0, 0, 0), (0, (0, 0)))
theorem ev_X8_greatestDivisor_34 : f_X8_greatestDivisor [zL 6, zL 5] h0_X8_greatestDivisor_34 (zrk (zL 1) h1_X8_greatestDivisor_34) = true := by decide +kernel
noncomputable def g_X8_greatestDivisor_34 {d : Nat} : List zV → zH d → zP d → Bool := zsmy [] [zL 6, zL 5] h0_X8_greatestDivisor_34 (zL 1) h1_X8_greatestDivisor_34
theorem mg_X8_greatestDivisor_34 {d : Nat} : zMet (d := d) X_X8_greatestDivisor yX8_greatestDivisor 1 g_X8_greatestDivisor_34 := zMet_sm m_X8_greatestDivisor ev_X8_greatestDivisor_34
noncomputable def h0_X8_greatestDivisor_35 : zH 0 := (show zT 0 from (0, 0, 0), (0, (0, 0)))
noncomputable def h1_X8_greatestDivisor_35 : zH 0 := (show zT 0 from (0, 0, 0), (0, (0, 0)))
theorem ev_X8_greatestDivisor_35 : f_X8_greatestDivisor [zL 6, zL 6] h0_X8_greatestDivisor_35 (zrk (zL 6) h1_X8_greatestDivisor_35) = true := by decide +kernel
noncomputable def g_X8_greatestDivisor_35 {d : Nat} : List zV → zH d → zP d → Bool := zsmy [] [zL 6, zL 6] h0_X8_greatestDivisor_35 (zL 6) h1_X8_greatestDivisor_35
theorem mg_X8_greatestDivisor_35 {d : Nat} : zMet (d := d) X_X8_greatestDivisor yX8_greatestDivisor 1 g_X8_greatestDivisor_35 := zMet_sm m_X8_greatestDivisor ev_X8_greatestDivisor_35
noncomputable def g_X8_greatestDivisor {d : Nat} : List zV → zH d → zP d → Bool := (zor2 g_X8_greatestDivisor_0 (zor2 g_X8_greatestDivisor_1 (zor2 g_X8_greatestDivisor_2 (zor2 g_X8_greatestDivisor_3 (zor2 g_X8_greatestDivisor_4 (zor2 g_X8_greatestDivisor_5 (zor2 g_X8_greatestDivisor_6 (zor2 g_X8_greatestDivisor_7 (zor2 g_X8_greatestDivisor_8 (zor2 g_X8_greatestDivisor_9 (zor2 g_X8_greatestDivisor_10 (zor2 g_X8_greatestDivisor_11 (zor2 g_X8_greatestDivisor_12 (zor2 g_X8_greatestDivisor_13 (zor2 g_X8_greatestDivisor_14 (zor2 g_X8_greatestDivisor_15 (zor2 g_X8_greatestDivisor_16 (zor2 g_X8_greatestDivisor_17 (zor2 g_X8_greatestDivisor_18 (zor2 g_X8_greatestDivisor_19 (zor2 g_X8_greatestDivisor_20 (zor2 g_X8_greatestDivisor_21 (zor2 g_X8_greatestDivisor_22 (zor2 g_X8_greatestDivisor_23 (zor2 g_X8_greatestDivisor_24 (zor2 g_X8_greatestDivisor_25 (zor2 g_X8_greatestDivisor_26 (zor2 g_X8_greatestDivisor_27 (zor2 g_X8_greatestDivisor_28 (zor2 g_X8_greatestDivisor_29 (zor2 g_X8_greatestDivisor_30 (zor2 g_X8_greatestDivisor_31 (zor2 g_X8_greatestDivisor_32 (zor2 g_X8_greatestDivisor_33 (zor2 g_X8_greatestDivisor_34 (zor2 g_X8_greatestDivisor_35 (fun _ _ _ => false)))))))))))))))))))))))))))))))))))))
theorem mg_X8_greatestDivisor {d : Nat} : zMet (d := d) X_X8_greatestDivisor yX8_greatestDivisor 1 g_X8_greatestDivisor := (zMet_or mg_X8_greatestDivisor_0 (zMet_or mg_X8_greatestDivisor_1 (zMet_or mg_X8_greatestDivisor_2 (zMet_or mg_X8_greatestDivisor_3 (zMet_or mg_X8_greatestDivisor_4 (zMet_or mg_X8_greatestDivisor_5 (zMet_or mg_X8_greatestDivisor_6 (zMet_or mg_X8_greatestDivisor_7 (zMet_or mg_X8_greatestDivisor_8 (zMet_or mg_X8_greatestDivisor_9 (zMet_or mg_X8_greatestDivisor_10 (zMet_or mg_X8_greatestDivisor_11 (zMet_or mg_X8_greatestDivisor_12 (zMet_or mg_X8_greatestDivisor_13 (zMet_or mg_X8_greatestDivisor_14 (zMet_or mg_X8_greatestDivisor_15 (zMet_or mg_X8_greatestDivisor_16 (zMet_or mg_X8_greatestDivisor_17 (zMet_or mg_X8_greatestDivisor_18 (zMet_or mg_X8_greatestDivisor_19 (zMet_or mg_X8_greatestDivisor_20 (zMet_or mg_X8_greatestDivisor_21 (zMet_or mg_X8_greatestDivisor_22 (zMet_or mg_X8_greatestDivisor_23 (zMet_or mg_X8_greatestDivisor_24 (zMet_or mg_X8_greatestDivisor_25 (zMet_or mg_X8_greatestDivisor_26 (zMet_or mg_X8_greatestDivisor_27 (zMet_or mg_X8_greatestDivisor_28 (zMet_or mg_X8_greatestDivisor_29 (zMet_or mg_X8_greatestDivisor_30 (zMet_or mg_X8_greatestDivisor_31 (zMet_or mg_X8_greatestDivisor_32 (zMet_or mg_X8_greatestDivisor_33 (zMet_or mg_X8_greatestDivisor_34 (zMet_or mg_X8_greatestDivisor_35 zfalse))))))))))))))))))))))))))))))))))))
