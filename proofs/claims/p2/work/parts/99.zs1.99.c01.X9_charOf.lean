/-! the reference by summaries, by program -/
noncomputable def h0_X9_charOf_73 : zH 2 := (show zT 2 from (((25, 63, bg_7), (0, 66, bg_5)), ((0, 11, bg_12), (0, 0, 0))), (3, (0, 0)))
noncomputable def h1_X9_charOf_73 : zH 2 := (show zT 2 from (((25, 63, bg_7), (0, 66, bg_5)), ((0, 11, bg_12), (0, 0, 0))), (3, (0, 0)))
theorem ev_X9_charOf_73 : f_X9_charOf [zR 1, zI 215, zI 6, zI 0] h0_X9_charOf_73 (zrk (zI 5) h1_X9_charOf_73) = true := by decide +kernel
noncomputable def g_X9_charOf_73 {d : Nat} : List zV → zH d → zP d → Bool := zsmy [(0, 0), (1, 3), (1, 4)] [zR 1, zI 215, zI 6, zI 0] h0_X9_charOf_73 (zI 5) h1_X9_charOf_73
theorem mg_X9_charOf_73 {d : Nat} : zMet (d := d) X_X9_charOf yX9_charOf 9 g_X9_charOf_73 := zMet_sm m_X9_charOf ev_X9_charOf_73
noncomputable def h0_X9_charOf_74 : zH 2 := (show zT 2 from (((25, 63, bg_7), (0, 66, bg_5)), ((0, 11, bg_12), (0, 0, 0))), (3, (0, 0)))
noncomputable def h1_X9_charOf_74 : zH 2 := (show zT 2 from (((25, 63, bg_7), (0, 66, bg_5)), ((0, 11, bg_12), (0, 0, 0))), (3, (0, 0)))
theorem ev_X9_charOf_74 : f_X9_charOf [zR 1, zI 187, zI 0, zI 0] h0_X9_charOf_74 (zrk (zI 4294967295) h1_X9_charOf_74) = true := by decide +kernel
noncomputable def g_X9_charOf_74 {d : Nat} : List zV → zH d → zP d → Bool := zsmy [(0, 0), (1, 3), (1, 4)] [zR 1, zI 187, zI 0, zI 0] h0_X9_charOf_74 (zI 4294967295) h1_X9_charOf_74
theorem mg_X9_charOf_74 {d : Nat} : zMet (d := d) X_X9_charOf yX9_charOf 9 g_X9_charOf_74 := zMet_sm m_X9_charOf ev_X9_charOf_74
noncomputable def h0_X9_charOf_75 : zH 2 := (show zT 2 from (((25, 63, bg_7), (0, 66, bg_5)), ((0, 11, bg_12), (0, 0, 0))), (3, (0, 0)))
noncomputable def h1_X9_charOf_75 : zH 2 := (show zT 2 from (((25, 63, bg_7), (0, 66, bg_5)), ((0, 11, bg_12), (0, 0, 0))), (3, (0, 0)))
theorem ev_X9_charOf_75 : f_X9_charOf [zR 1, zI 187, zI 1, zI 0] h0_X9_charOf_75 (zrk (zI 0) h1_X9_charOf_75) = true := by decide +kernel
noncomputable def g_X9_charOf_75 {d : Nat} : List zV → zH d → zP d → Bool := zsmy [(0, 0), (1, 3), (1, 4)] [zR 1, zI 187, zI 1, zI 0] h0_X9_charOf_75 (zI 0) h1_X9_charOf_75
theorem mg_X9_charOf_75 {d : Nat} : zMet (d := d) X_X9_charOf yX9_charOf 9 g_X9_charOf_75 := zMet_sm m_X9_charOf ev_X9_charOf_75
noncomputable def h0_X9_charOf_76 : zH 2 := (show zT 2 from (((25, 63, bg_7), (0, 66, bg_5)), ((0, 11, bg_12), (0, 0, 0))), (3, (0, 0)))
noncomputable def h1_X9_charOf_76 : zH 2 := (show zT 2 from (((25, 63, bg_7), (0, 66, bg_5)), ((0, 11, bg_12), (0, 0, 0))), (3, (0, 0)))
theorem ev_X9_charOf_76 : f_X9_charOf [zR 1, zI 187, zI 2, zI 0] h0_X9_charOf_76 (zrk (zI 1) h1_X9_charOf_76) = true := by decide +kernel
noncomputable def g_X9_charOf_76 {d : Nat} : List zV → zH d → zP d → Bool := zsmy [(0, 0), (1, 3), (1, 4)] [zR 1, zI 187, zI 2, zI 0] h0_X9_charOf_76 (zI 1) h1_X9_charOf_76
theorem mg_X9_charOf_76 {d : Nat} : zMet (d := d) X_X9_charOf yX9_charOf 9 g_X9_charOf_76 := zMet_sm m_X9_charOf ev_X9_charOf_76
noncomputable def h0_X9_charOf_77 : zH 2 := (show zT 2 from (((25, 63, bg_7), (0, 66, bg_5)), ((0, 11, bg_12), (0, 0, 0))), (3, (0, 0)))
noncomputable def h1_X9_charOf_77 : zH 2 := (show zT 2 from (((25, 63, bg_7), (0, 66, bg_5)), ((0, 11, bg_12), (0, 0, 0))), (3, (0, 0)))
theorem ev_X9_charOf_77 : f_X9_charOf [zR 1, zI 187, zI 3, zI 0] h0_X9_charOf_77 (zrk (zI 1) h1_X9_charOf_77) = true := by decide +kernel
noncomputable def g_X9_charOf_77 {d : Nat} : List zV → zH d → zP d → Bool := zsmy [(0, 0), (1, 3), (1, 4)] [zR 1, zI 187, zI 3, zI 0] h0_X9_charOf_77 (zI 1) h1_X9_charOf_77
theorem mg_X9_charOf_77 {d : Nat} : zMet (d := d) X_X9_charOf yX9_charOf 9 g_X9_charOf_77 := zMet_sm m_X9_charOf ev_X9_charOf_77
noncomputable def h0_X9_charOf_78 : zH 2 := (show zT 2 from (((25, 63, bg_7), (0, 66, bg_5)), ((0, 11, bg_12), (0, 0, 0))), (3, (0, 0)))
noncomputable def h1_X9_charOf_78 : zH 2 := (show zT 2 from (((25, 63, bg_7), (0, 66, bg_5)), ((0, 11, bg_12), (0, 0, 0))), (3, (0, 0)))
theorem ev_X9_charOf_78 : f_X9_charOf [zR 1, zI 187, zI 4, zI 0] h0_X9_charOf_78 (zrk (zI 0) h1_X9_charOf_78) = true := by decide +kernel
noncomputable def g_X9_charOf_78 {d : Nat} : List zV → zH d → zP d → Bool := zsmy [(0, 0), (1, 3), (1, 4)] [zR 1, zI 187, zI 4, zI 0] h0_X9_charOf_78 (zI 0) h1_X9_charOf_78
theorem mg_X9_charOf_78 {d : Nat} : zMet (d := d) X_X9_charOf yX9_charOf 9 g_X9_charOf_78 := zMet_sm m_X9_charOf ev_X9_charOf_78
noncomputable def h0_X9_charOf_79 : zH 2 := (show zT 2 from (((25, 63, bg_7), (0, 66, bg_5)), ((0, 11, bg_12), (0, 0, 0))), (3, (0, 0)))
noncomputable def h1_X9_charOf_79 : zH 2 := (show zT 2 from (((25, 63, bg_7), (0, 66, bg_5)), ((0, 11, bg_12), (0, 0, 0))), (3, (0, 0)))
theorem ev_X9_charOf_79 : f_X9_charOf [zR 1, zI 187, zI 5, zI 0] h0_X9_charOf_79 (zrk (zI 4294967294) h1_X9_charOf_79) = true := by decide +kernel
noncomputable def g_X9_charOf_79 {d : Nat} : List zV → zH d → zP d → Bool := zsmy [(0, 0), (1, 3), (1, 4)] [zR 1, zI 187, zI 5, zI 0] h0_X9_charOf_79 (zI 4294967294) h1_X9_charOf_79
theorem mg_X9_charOf_79 {d : Nat} : zMet (d := d) X_X9_charOf yX9_charOf 9 g_X9_charOf_79 := zMet_sm m_X9_charOf ev_X9_charOf_79
noncomputable def h0_X9_charOf_80 : zH 2 := (show zT 2 from (((25, 63, bg_7), (0, 66, bg_5)), ((0, 11, bg_12), (0, 0, 0))), (3, (0, 0)))
noncomputable def h1_X9_charOf_80 : zH 2 := (show zT 2 from (((25, 63, bg_7), (0, 66, bg_5)), ((0, 11, bg_12), (0, 0, 0))), (3, (0, 0)))
theorem ev_X9_charOf_80 : f_X9_charOf [zR 1, zI 187, zI 6, zI 0] h0_X9_charOf_80 (zrk (zI 4) h1_X9_charOf_80) = true := by decide +kernel
noncomputable def g_X9_charOf_80 {d : Nat} : List zV → zH d → zP d → Bool := zsmy [(0, 0), (1, 3), (1, 4)] [zR 1, zI 187, zI 6, zI 0] h0_X9_charOf_80 (zI 4) h1_X9_charOf_80
theorem mg_X9_charOf_80 {d : Nat} : zMet (d := d) X_X9_charOf yX9_charOf 9 g_X9_charOf_80 := zMet_sm m_X9_charOf ev_X9_charOf_80
noncomputable def h0_X9_charOf_81 : zH 2 := (show zT 2 from (((25, 63, bg_7), (0, 66, bg_5)), ((0, 11, bg_12), (0, 0, 0))), (3, (0, 0)))
noncomputable def h1_X9_charOf_81 : zH 2 := (show zT 2 from (((25, 63, bg_7), (0, 66, bg_5)), ((0, 11, bg_12), (0, 0, 0))), (3, (0, 0)))
theorem ev_X9_charOf_81 : f_X9_charOf [zR 1, zI 125, zI 0, zI 0] h0_X9_charOf_81 (zrk (zI 1) h1_X9_charOf_81) = true := by decide +kernel
noncomputable def g_X9_charOf_81 {d : Nat} : List zV → zH d → zP d → Bool := zsmy [(0, 0), (1, 3), (1, 4)] [zR 1, zI 125, zI 0, zI 0] h0_X9_charOf_81 (zI 1) h1_X9_charOf_81
theorem mg_X9_charOf_81 {d : Nat} : zMet (d := d) X_X9_charOf yX9_charOf 9 g_X9_charOf_81 := zMet_sm m_X9_charOf ev_X9_charOf_81
noncomputable def h0_X9_charOf_82 : zH 2 := (show zT 2 from (((25, 63, bg_7), (0, 66, bg_5)), ((0, 11, bg_12), (0, 0, 0))), (3, (0, 0)))
noncomputable def h1_X9_charOf_82 : zH 2 := (show zT 2 from (((25, 63, bg_7), (0, 66, bg_5)), ((0, 11, bg_12), (0, 0, 0))), (3, (0, 0)))
theorem ev_X9_charOf_82 : f_X9_charOf [zR 1, zI 125, zI 1, zI 0] h0_X9_charOf_82 (zrk (zI 4294967295) h1_X9_charOf_82) = true := by decide +kernel
noncomputable def g_X9_charOf_82 {d : Nat} : List zV → zH d → zP d → Bool := zsmy [(0, 0), (1, 3), (1, 4)] [zR 1, zI 125, zI 1, zI 0] h0_X9_charOf_82 (zI 4294967295) h1_X9_charOf_82
theorem mg_X9_charOf_82 {d : Nat} : zMet (d := d) X_X9_charOf yX9_charOf 9 g_X9_charOf_82 := zMet_sm m_X9_charOf ev_X9_charOf_82
noncomputable def h0_X9_charOf_83 : zH 2 := (show zT 2 from (((25, 63, bg_7), (0, 66, bg_5)), ((0, 11, bg_12), (0, 0, 0))), (3, (0, 0)))
noncomputable def h1_X9_charOf_83 : zH 2 := (show zT 2 from (((25, 63, bg_7), (0, 66, bg_5)), ((0, 11, bg_12), (0, 0, 0))), (3, (0, 0)))
theorem ev_X9_charOf_83 : f_X9_charOf [zR 1, zI 125, zI 2, zI 0] h0_X9_charOf_83 (zrk (zI 4294967295) h1_X9_charOf_83) = true := by decide +kernel
noncomputable def g_X9_charOf_83 {d : Nat} : List zV → zH d → zP d → Bool := zsmy [(0, 0), (1, 3), (1, 4)] [zR 1, zI 125, zI 2, zI 0] h0_X9_charOf_83 (zI 4294967295) h1_X9_charOf_83
theorem mg_X9_charOf_83 {d : Nat} : zMet (d := d) X_X9_charOf yX9_charOf 9 g_X9_charOf_83 := zMet_sm m_X9_charOf ev_X9_charOf_83
noncomputable def h0_X9_charOf_84 : zH 2 := (show zT 2 from (((25, 63, bg_7), (0, 66, bg_5)), ((0, 11, bg_12), (0, 0, 0))), (3, (0, 0)))
noncomputable def h1_X9_charOf_84 : zH 2 := (show zT 2 from (((25, 63, bg_7), (0, 66, bg_5)), ((0, 11, bg_12), (0, 0, 0))), (3, (0, 0)))
theorem ev_X9_charOf_84 : f_X9_charOf [zR 1, zI 125, zI 3, zI 0] h0_X9_charOf_84 (zrk (zI 1) h1_X9_charOf_84) = true := by decide +kernel
noncomputable def g_X9_charOf_84 {d : Nat} : List zV → zH d → zP d → Bool := zsmy [(0, 0), (1, 3), (1, 4)] [zR 1, zI 125, zI 3, zI 0] h0_X9_charOf_84 (zI 1) h1_X9_charOf_84
theorem mg_X9_charOf_84 {d : Nat} : zMet (d := d) X_X9_charOf yX9_charOf 9 g_X9_charOf_84 := zMet_sm m_X9_charOf ev_X9_charOf_84
noncomputable def h0_X9_charOf_85 : zH 2 := (show zT 2 from (((25, 63, bg_7), (0, 66, bg_5)), ((0, 11, bg_12), (0, 0, 0))), (3, (0, 0)))
noncomputable def h1_X9_charOf_85 : zH 2 := (show zT 2 from (((25, 63, bg_7), (0, 66, bg_5)), ((0, 11, bg_12), (0, 0, 0))), (3, (0, 0)))
theorem ev_X9_charOf_85 : f_X9_charOf [zR 1, zI 125, zI 4, zI 0] h0_X9_charOf_85 (zrk (zI 1) h1_X9_charOf_85) = true := by decide +kernel
noncomputable def g_X9_charOf_85 {d : Nat} : List zV → zH d → zP d → Bool := zsmy [(0, 0), (1, 3), (1, 4)] [zR 1, zI 125, zI 4, zI 0] h0_X9_charOf_85 (zI 1) h1_X9_charOf_85
theorem mg_X9_charOf_85 {d : Nat} : zMet (d := d) X_X9_charOf yX9_charOf 9 g_X9_charOf_85 := zMet_sm m_X9_charOf ev_X9_charOf_85
noncomputable def h0_X9_charOf_86 : zH 2 := (show zT 2 from (((25, 63, bg_7), (0, 66, bg_5)), ((0, 11, bg_12), (0, 0, 0))), (3, (0, 0)))
noncomputable def h1_X9_charOf_86 : zH 2 := (show zT 2 from (((25, 63, bg_7), (0, 66, bg_5)), ((0, 11, bg_12), (0, 0, 0))), (3, (0, 0)))
theorem ev_X9_charOf_86 : f_X9_charOf [zR 1, zI 125, zI 5, zI 0] h0_X9_charOf_86 (zrk (zI 4294967295) h1_X9_charOf_86) = true := by decide +kernel
noncomputable def g_X9_charOf_86 {d : Nat} : List zV → zH d → zP d → Bool := zsmy [(0, 0), (1, 3), (1, 4)] [zR 1, zI 125, zI 5, zI 0] h0_X9_charOf_86 (zI 4294967295) h1_X9_charOf_86
theorem mg_X9_charOf_86 {d : Nat} : zMet (d := d) X_X9_charOf yX9_charOf 9 g_X9_charOf_86 := zMet_sm m_X9_charOf ev_X9_charOf_86
noncomputable def h0_X9_charOf_87 : zH 2 := (show zT 2 from (((25, 63, bg_7), (0, 66, bg_5)), ((0, 11, bg_12), (0, 0, 0))), (3, (0, 0)))
noncomputable def h1_X9_charOf_87 : zH 2 := (show zT 2 from (((25, 63, bg_7), (0, 66, bg_5)), ((0, 11, bg_12), (0, 0, 0))), (3, (0, 0)))
theorem ev_X9_charOf_87 : f_X9_charOf [zR 1, zI 125, zI 6, zI 0] h0_X9_charOf_87 (zrk (zI 1) h1_X9_charOf_87) = true := by decide +kernel
noncomputable def g_X9_charOf_87 {d : Nat} : List zV → zH d → zP d → Bool := zsmy [(0, 0), (1, 3), (1, 4)] [zR 1, zI 125, zI 6, zI 0] h0_X9_charOf_87 (zI 1) h1_X9_charOf_87
theorem mg_X9_charOf_87 {d : Nat} : zMet (d := d) X_X9_charOf yX9_charOf 9 g_X9_charOf_87 := zMet_sm m_X9_charOf ev_X9_charOf_87
noncomputable def h0_X9_charOf_88 : zH 2 := (show zT 2 from (((25, 63, bg_7), (0, 66, bg_6)), ((0, 11, bg_13), (0, 0, 0))), (3, (0, 0)))
noncomputable def h1_X9_charOf_88 : zH 2 := (show zT 2 from (((25, 63, bg_7), (0, 66, bg_6)), ((0, 11, bg_13), (0, 0, 0))), (3, (0, 0)))
theorem ev_X9_charOf_88 : f_X9_charOf [zR 1, zI 2079, zI 0, zI 0] h0_X9_charOf_88 (zrk (zI 1) h1_X9_charOf_88) = true := by decide +kernel
noncomputable def g_X9_charOf_88 {d : Nat} : List zV → zH d → zP d → Bool := zsmy [(0, 0), (1, 3), (1, 4)] [zR 1, zI 2079, zI 0, zI 0] h0_X9_charOf_88 (zI 1) h1_X9_charOf_88
theorem mg_X9_charOf_88 {d : Nat} : zMet (d := d) X_X9_charOf yX9_charOf 9 g_X9_charOf_88 := zMet_sm m_X9_charOf ev_X9_charOf_88
noncomputable def h0_X9_charOf_89 : zH 2 := (show zT 2 from (((25, 63, bg_7), (0, 66, bg_6)), ((0, 11, bg_13), (0, 0, 0))), (3, (0, 0)))
noncomputable def h1_X9_charOf_89 : zH 2 := (show zT 2 from (((25, 63, bg_7), (0, 66, bg_6)), ((0, 11, bg_13), (0, 0, 0))), (3, (0, 0)))
theorem ev_X9_charOf_89 : f_X9_charOf [zR 1, zI 2079, zI 1, zI 0] h0_X9_charOf_89 (zrk (zI 1) h1_X9_charOf_89) = true := by decide +kernel
noncomputable def g_X9_charOf_89 {d : Nat} : List zV → zH d → zP d → Bool := zsmy [(0, 0), (1, 3), (1, 4)] [zR 1, zI 2079, zI 1, zI 0] h0_X9_charOf_89 (zI 1) h1_X9_charOf_89
theorem mg_X9_charOf_89 {d : Nat} : zMet (d := d) X_X9_charOf yX9_charOf 9 g_X9_charOf_89 := zMet_sm m_X9_charOf ev_X9_charOf_89
noncomputable def h0_X9_charOf_90 : zH 2 := (show zT 2 from (((25, 63, bg_7), (0, 66, bg_6)), ((0, 11, bg_13), (0, 0, 0))), (3, (0, 0)))
noncomputable def h1_X9_charOf_90 : zH 2 := (show zT 2 from (((25, 63, bg_7), (0, 66, bg_6)), ((0, 11, bg_13), (0, 0, 0))), (3, (0, 0)))
theorem ev_X9_charOf_90 : f_X9_charOf [zR 1, zI 2079, zI 2, zI 0] h0_X9_charOf_90 (zrk (zI 1) h1_X9_charOf_90) = true := by decide +kernel
noncomputable def g_X9_charOf_90 {d : Nat} : List zV → zH d → zP d → Bool := zsmy [(0, 0), (1, 3), (1, 4)] [zR 1, zI 2079, zI 2, zI 0] h0_X9_charOf_90 (zI 1) h1_X9_charOf_90
theorem mg_X9_charOf_90 {d : Nat} : zMet (d := d) X_X9_charOf yX9_charOf 9 g_X9_charOf_90 := zMet_sm m_X9_charOf ev_X9_charOf_90
noncomputable def h0_X9_charOf_91 : zH 2 := (show zT 2 from (((25, 63, bg_7), (0, 66, bg_6)), ((0, 11, bg_13), (0, 0, 0))), (3, (0, 0)))
noncomputable def h1_X9_charOf_91 : zH 2 := (show zT 2 from (((25, 63, bg_7), (0, 66, bg_6)), ((0, 11, bg_13), (0, 0, 0))), (3, (0, 0)))
theorem ev_X9_charOf_91 : f_X9_charOf [zR 1, zI 2079, zI 3, zI 0] h0_X9_charOf_91 (zrk (zI 1) h1_X9_charOf_91) = true := by decide +kernel
noncomputable def g_X9_charOf_91 {d : Nat} : List zV → zH d → zP d → Bool := zsmy [(0, 0), (1, 3), (1, 4)] [zR 1, zI 2079, zI 3, zI 0] h0_X9_charOf_91 (zI 1) h1_X9_charOf_91
theorem mg_X9_charOf_91 {d : Nat} : zMet (d := d) X_X9_charOf yX9_charOf 9 g_X9_charOf_91 := zMet_sm m_X9_charOf ev_X9_charOf_91
noncomputable def h0_X9_charOf_92 : zH 2 := (show zT 2 from (((25, 63, bg_7), (0, 66, bg_6)), ((0, 11, bg_13), (0, 0, 0))), (3, (0, 0)))
noncomputable def h1_X9_charOf_92 : zH 2 := (show zT 2 from (((25, 63, bg_7), (0, 66, bg_6)), ((0, 11, bg_13), (0, 0, 0))), (3, (0, 0)))
theorem ev_X9_charOf_92 : f_X9_charOf [zR 1, zI 2079, zI 4, zI 0] h0_X9_charOf_92 (zrk (zI 1) h1_X9_charOf_92) = true := by decide +kernel
noncomputable def g_X9_charOf_92 {d : Nat} : List zV → zH d → zP d → Bool := zsmy [(0, 0), (1, 3), (1, 4)] [zR 1, zI 2079, zI 4, zI 0] h0_X9_charOf_92 (zI 1) h1_X9_charOf_92
theorem mg_X9_charOf_92 {d : Nat} : zMet (d := d) X_X9_charOf yX9_charOf 9 g_X9_charOf_92 := zMet_sm m_X9_charOf ev_X9_charOf_92
noncomputable def h0_X9_charOf_93 : zH 2 := (show zT 2 from (((25, 63, bg_7), (0, 66, bg_6)), ((0, 11, bg_13), (0, 0, 0))), (3, (0, 0)))
noncomputable def h1_X9_charOf_93 : zH 2 := (show zT 2 from (((25, 63, bg_7), (0, 66, bg_6)), ((0, 11, bg_13), (0, 0, 0))), (3, (0, 0)))
theorem ev_X9_charOf_93 : f_X9_charOf [zR 1, zI 2079, zI 5, zI 0] h0_X9_charOf_93 (zrk (zI 1) h1_X9_charOf_93) = true := by decide +kernel
noncomputable def g_X9_charOf_93 {d : Nat} : List zV → zH d → zP d → Bool := zsmy [(0, 0), (1, 3), (1, 4)] [zR 1, zI 2079, zI 5, zI 0] h0_X9_charOf_93 (zI 1) h1_X9_charOf_93
theorem mg_X9_charOf_93 {d : Nat} : zMet (d := d) X_X9_charOf yX9_charOf 9 g_X9_charOf_93 := zMet_sm m_X9_charOf ev_X9_charOf_93
noncomputable def h0_X9_charOf_94 : zH 2 := (show zT 2 from (((25, 63, bg_7), (0, 66, bg_6)), ((0, 11, bg_13), (0, 0, 0))), (3, (0, 0)))
noncomputable def h1_X9_charOf_94 : zH 2 := (show zT 2 from (((25, 63, bg_7), (0, 66, bg_6)), ((0, 11, bg_13), (0, 0, 0))), (3, (0, 0)))
theorem ev_X9_charOf_94 : f_X9_charOf [zR 1, zI 2079, zI 6, zI 0] h0_X9_charOf_94 (zrk (zI 1) h1_X9_charOf_94) = true := by decide +kernel
noncomputable def g_X9_charOf_94 {d : Nat} : List zV → zH d → zP d → Bool := zsmy [(0, 0), (1, 3), (1, 4)] [zR 1, zI 2079, zI 6, zI 0] h0_X9_charOf_94 (zI 1) h1_X9_charOf_94
theorem mg_X9_charOf_94 {d : Nat} : zMet (d := d) X_X9_charOf yX9_charOf 9 g_X9_charOf_94 := zMet_sm m_X9_charOf ev_X9_charOf_94
noncomputable def h0_X9_charOf_95 : zH 2 := (show zT 2 from (((25, 63, bg_7), (0, 66, bg_6)), ((0, 11, bg_13), (0, 0, 0))), (3, (0, 0)))
noncomputable def h1_X9_charOf_95 : zH 2 := (show zT 2 from (((25, 63, bg_7), (0, 66, bg_6)), ((0, 11, bg_13), (0, 0, 0))), (3, (0, 0)))
theorem ev_X9_charOf_95 : f_X9_charOf [zR 1, zI 2079, zI 7, zI 0] h0_X9_charOf_95 (zrk (zI 1) h1_X9_charOf_95) = true := by decide +kernel
noncomputable def g_X9_charOf_95 {d : Nat} : List zV → zH d → zP d → Bool := zsmy [(0, 0), (1, 3), (1, 4)] [zR 1, zI 2079, zI 7, zI 0] h0_X9_charOf_95 (zI 1) h1_X9_charOf_95
theorem mg_X9_charOf_95 {d : Nat} : zMet (d := d) X_X9_charOf yX9_charOf 9 g_X9_charOf_95 := zMet_sm m_X9_charOf ev_X9_charOf_95
noncomputable def h0_X9_charOf_96 : zH 2 := (show zT 2 from (((25, 63, bg_7), (0, 66, bg_6)), ((0, 11, bg_13), (0, 0, 0))), (3, (0, 0)))
noncomputable def h1_X9_charOf_96 : zH 2 := (show zT 2 from (((25, 63, bg_7), (0, 66, bg_6)), ((0, 11, bg_13), (0, 0, 0))), (3, (0, 0)))
theorem ev_X9_charOf_96 : f_X9_charOf [zR 1, zI 2079, zI 8, zI 0] h0_X9_charOf_96 (zrk (zI 1) h1_X9_charOf_96) = true := by decide +kernel
noncomputable def g_X9_charOf_96 {d : Nat} : List zV → zH d → zP d → Bool := zsmy [(0, 0), (1, 3), (1, 4)] [zR 1, zI 2079, zI 8, zI 0] h0_X9_charOf_96 (zI 1) h1_X9_charOf_96
theorem mg_X9_charOf_96 {d : Nat} : zMet (d := d) X_X9_charOf yX9_charOf 9 g_X9_charOf_96 := zMet_sm m_X9_charOf ev_X9_charOf_96
noncomputable def h0_X9_charOf_97 : zH 2 := (show zT 2 from (((25, 63, bg_7), (0, 66, bg_6)), ((0, 11, bg_13), (0, 0, 0))), (3, (0, 0)))
noncomputable def h1_X9_charOf_97 : zH 2 := (show zT 2 from (((25, 63, bg_7), (0, 66, bg_6)), ((0, 11, bg_13), (0, 0, 0))), (3, (0, 0)))
theorem ev_X9_charOf_97 : f_X9_charOf [zR 1, zI 2079, zI 9, zI 0] h0_X9_charOf_97 (zrk (zI 1) h1_X9_charOf_97) = true := by decide +kernel
noncomputable def g_X9_charOf_97 {d : Nat} : List zV → zH d → zP d → Bool := zsmy [(0, 0), (1, 3), (1, 4)] [zR 1, zI 2079, zI 9, zI 0] h0_X9_charOf_97 (zI 1) h1_X9_charOf_97
theorem mg_X9_charOf_97 {d : Nat} : zMet (d := d) X_X9_charOf yX9_charOf 9 g_X9_charOf_97 := zMet_sm m_X9_charOf ev_X9_charOf_97
noncomputable def h0_X9_charOf_98 : zH 2 := (show zT 2 from (((25, 63, bg_7), (0, 66, bg_6)), ((0, 11, bg_13), (0, 0, 0))), (3, (0, 0)))
noncomputable def h1_X9_charOf_98 : zH 2 := (show zT 2 from (((25, 63, bg_7), (0, 66, bg_6)), ((0, 11, bg_13), (0, 0, 0))), (3, (0, 0)))
theorem ev_X9_charOf_98 : f_X9_charOf [zR 1, zI 2079, zI 10, zI 0] h0_X9_charOf_98 (zrk (zI 1) h1_X9_charOf_98) = true := by decide +kernel
noncomputable def g_X9_charOf_98 {d : Nat} : List zV → zH d → zP d → Bool := zsmy [(0, 0), (1, 3), (1, 4)] [zR 1, zI 2079, zI 10, zI 0] h0_X9_charOf_98 (zI 1) h1_X9_charOf_98
theorem mg_X9_charOf_98 {d : Nat} : zMet (d := d) X_X9_charOf yX9_charOf 9 g_X9_charOf_98 := zMet_sm m_X9_charOf ev_X9_charOf_98
noncomputable def h0_X9_charOf_99 : zH 2 := (show zT 2 from (((25, 63, bg_7), (0, 66, bg_6)), ((0, 11, bg_13), (0, 0, 0))), (3, (0, 0)))
noncomputable def h1_X9_charOf_99 : zH 2 := (show zT 2 from (((25, 63, bg_7), (0, 66, bg_6)), ((0, 11, bg_13), (0, 0, 0))), (3, (0, 0)))
theorem ev_X9_charOf_99 : f_X9_charOf [zR 1, zI 1071, zI 0, zI 0] h0_X9_charOf_99 (zrk (zI 4294967295) h1_X9_charOf_99) = true := by decide +kernel
noncomputable def g_X9_charOf_99 {d : Nat} : List zV → zH d → zP d → Bool := zsmy [(0, 0), (1, 3), (1, 4)] [zR 1, zI 1071, zI 0, zI 0] h0_X9_charOf_99 (zI 4294967295) h1_X9_charOf_99
theorem mg_X9_charOf_99 {d : Nat} : zMet (d := d) X_X9_charOf yX9_charOf 9 g_X9_charOf_99 := zMet_sm m_X9_charOf ev_X9_charOf_99
noncomputable def h0_X9_charOf_100 : zH 2 := (show zT 2 from (((25, 63, bg_7), (0, 66, bg_6)), ((0, 11, bg_13), (0, 0, 0))), (3, (0, 0)))
noncomputable def h1_X9_charOf_100 : zH 2 := (show zT 2 from (((25, 63, bg_7), (0, 66, bg_6)), ((0, 11, bg_13), (0, 0, 0))), (3, (0, 0)))
theorem ev_X9_charOf_100 : f_X9_charOf [zR 1, zI 1071, zI 1, zI 0] h0_X9_charOf_100 (zrk (zI 0) h1_X9_charOf_100) = true := by decide +kernel
noncomputable def g_X9_charOf_100 {d : Nat} : List zV → zH d → zP d → Bool := zsmy [(0, 0), (1, 3), (1, 4)] [zR 1, zI 1071, zI 1, zI 0] h0_X9_charOf_100 (zI 0) h1_X9_charOf_100
theorem mg_X9_charOf_100 {d : Nat} : zMet (d := d) X_X9_charOf yX9_charOf 9 g_X9_charOf_100 := zMet_sm m_X9_charOf ev_X9_charOf_100
noncomputable def h0_X9_charOf_101 : zH 2 := (show zT 2 from (((25, 63, bg_7), (0, 66, bg_6)), ((0, 11, bg_13), (0, 0, 0))), (3, (0, 0)))
noncomputable def h1_X9_charOf_101 : zH 2 := (show zT 2 from (((25, 63, bg_7), (0, 66, bg_6)), ((0, 11, bg_13), (0, 0, 0))), (3, (0, 0)))
theorem ev_X9_charOf_101 : f_X9_charOf [zR 1, zI 1071, zI 2, zI 0] h0_X9_charOf_101 (zrk (zI 4294967295) h1_X9_charOf_101) = true := by decide +kernel
noncomputable def g_X9_charOf_101 {d : Nat} : List zV → zH d → zP d → Bool := zsmy [(0, 0), (1, 3), (1, 4)] [zR 1, zI 1071, zI 2, zI 0] h0_X9_charOf_101 (zI 4294967295) h1_X9_charOf_101
theorem mg_X9_charOf_101 {d : Nat} : zMet (d := d) X_X9_charOf yX9_charOf 9 g_X9_charOf_101 := zMet_sm m_X9_charOf ev_X9_charOf_101
noncomputable def h0_X9_charOf_102 : zH 2 := (show zT 2 from (((25, 63, bg_7), (0, 66, bg_6)), ((0, 11, bg_13), (0, 0, 0))), (3, (0, 0)))
noncomputable def h1_X9_charOf_102 : zH 2 := (show zT 2 from (((25, 63, bg_7), (0, 66, bg_6)), ((0, 11, bg_13), (0, 0, 0))), (3, (0, 0)))
theorem ev_X9_charOf_102 : f_X9_charOf [zR 1, zI 1071, zI 3, zI 0] h0_X9_charOf_102 (zrk (zI 1) h1_X9_charOf_102) = true := by decide +kernel
noncomputable def g_X9_charOf_102 {d : Nat} : List zV → zH d → zP d → Bool := zsmy [(0, 0), (1, 3), (1, 4)] [zR 1, zI 1071, zI 3, zI 0] h0_X9_charOf_102 (zI 1) h1_X9_charOf_102
theorem mg_X9_charOf_102 {d : Nat} : zMet (d := d) X_X9_charOf yX9_charOf 9 g_X9_charOf_102 := zMet_sm m_X9_charOf ev_X9_charOf_102
noncomputable def h0_X9_charOf_103 : zH 2 := (show zT 2 from (((25, 63, bg_7), (0, 66, bg_6)), ((0, 11, bg_13), (0, 0, 0))), (3, (0, 0)))
noncomputable def h1_X9_charOf_103 : zH 2 := (show zT 2 from (((25, 63, bg_7), (0, 66, bg_6)), ((0, 11, bg_13), (0, 0, 0))), (3, (0, 0)))
theorem ev_X9_charOf_103 : f_X9_charOf [zR 1, zI 1071, zI 4, zI 0] h0_X9_charOf_103 (zrk (zI 4294967295) h1_X9_charOf_103) = true := by decide +kernel
noncomputable def g_X9_charOf_103 {d : Nat} : List zV → zH d → zP d → Bool := zsmy [(0, 0), (1, 3), (1, 4)] [zR 1, zI 1071, zI 4, zI 0] h0_X9_charOf_103 (zI 4294967295) h1_X9_charOf_103
theorem mg_X9_charOf_103 {d : Nat} : zMet (d := d) X_X9_charOf yX9_charOf 9 g_X9_charOf_103 := zMet_sm m_X9_charOf ev_X9_charOf_103
noncomputable def h0_X9_charOf_104 : zH 2 := (show zT 2 from (((25, 63, bg_7), (0, 66, bg_6)), ((0, 11, bg_13), (0, 0, 0))), (3, (0, 0)))
noncomputable def h1_X9_charOf_104 : zH 2 := (show zT 2 from (((25, 63, bg_7), (0, 66, bg_6)), ((0, 11, bg_13), (0, 0, 0))), (3, (0, 0)))
theorem ev_X9_charOf_104 : f_X9_charOf [zR 1, zI 1071, zI 5, zI 0] h0_X9_charOf_104 (zrk (zI 0) h1_X9_charOf_104) = true := by decide +kernel
noncomputable def g_X9_charOf_104 {d : Nat} : List zV → zH d → zP d → Bool := zsmy [(0, 0), (1, 3), (1, 4)] [zR 1, zI 1071, zI 5, zI 0] h0_X9_charOf_104 (zI 0) h1_X9_charOf_104
theorem mg_X9_charOf_104 {d : Nat} : zMet (d := d) X_X9_charOf yX9_charOf 9 g_X9_charOf_104 := zMet_sm m_X9_charOf ev_X9_charOf_104
noncomputable def h0_X9_charOf_105 : zH 2 := (show zT 2 from (((25, 63, bg_7), (0, 66, bg_6)), ((0, 11, bg_13), (0, 0, 0))), (3, (0, 0)))
noncomputable def h1_X9_charOf_105 : zH 2 := (show zT 2 from (((25, 63, bg_7), (0, 66, bg_6)), ((0, 11, bg_13), (0, 0, 0))), (3, (0, 0)))
theorem ev_X9_charOf_105 : f_X9_charOf [zR 1, zI 1071, zI 6, zI 0] h0_X9_charOf_105 (zrk (zI 2) h1_X9_charOf_105) = true := by decide +kernel
noncomputable def g_X9_charOf_105 {d : Nat} : List zV → zH d → zP d → Bool := zsmy [(0, 0), (1, 3), (1, 4)] [zR 1, zI 1071, zI 6, zI 0] h0_X9_charOf_105 (zI 2) h1_X9_charOf_105
theorem mg_X9_charOf_105 {d : Nat} : zMet (d := d) X_X9_charOf yX9_charOf 9 g_X9_charOf_105 := zMet_sm m_X9_charOf ev_X9_charOf_105
noncomputable def h0_X9_charOf_106 : zH 2 := (show zT 2 from (((25, 63, bg_7), (0, 66, bg_6)), ((0, 11, bg_13), (0, 0, 0))), (3, (0, 0)))
noncomputable def h1_X9_charOf_106 : zH 2 := (show zT 2 from (((25, 63, bg_7), (0, 66, bg_6)), ((0, 11, bg_13), (0, 0, 0))), (3, (0, 0)))
theorem ev_X9_charOf_106 : f_X9_charOf [zR 1, zI 1071, zI 7, zI 0] h0_X9_charOf_106 (zrk (zI 4294967295) h1_X9_charOf_106) = true := by decide +kernel
noncomputable def g_X9_charOf_106 {d : Nat} : List zV → zH d → zP d → Bool := zsmy [(0, 0), (1, 3), (1, 4)] [zR 1, zI 1071, zI 7, zI 0] h0_X9_charOf_106 (zI 4294967295) h1_X9_charOf_106
theorem mg_X9_charOf_106 {d : Nat} : zMet (d := d) X_X9_charOf yX9_charOf 9 g_X9_charOf_106 := zMet_sm m_X9_charOf ev_X9_charOf_106
noncomputable def h0_X9_charOf_107 : zH 2 := (show zT 2 from (((25, 63, bg_7), (0, 66, bg_6)), ((0, 11, bg_13), (0, 0, 0))), (3, (0, 0)))
noncomputable def h1_X9_charOf_107 : zH 2 := (show zT 2 from (((25, 63, bg_7), (0, 66, bg_6)), ((0, 11, bg_13), (0, 0, 0))), (3, (0, 0)))
theorem ev_X9_charOf_107 : f_X9_charOf [zR 1, zI 1071, zI 8, zI 0] h0_X9_charOf_107 (zrk (zI 1) h1_X9_charOf_107) = true := by decide +kernel
noncomputable def g_X9_charOf_107 {d : Nat} : List zV → zH d → zP d → Bool := zsmy [(0, 0), (1, 3), (1, 4)] [zR 1, zI 1071, zI 8, zI 0] h0_X9_charOf_107 (zI 1) h1_X9_charOf_107
theorem mg_X9_charOf_107 {d : Nat} : zMet (d := d) X_X9_charOf yX9_charOf 9 g_X9_charOf_107 := zMet_sm m_X9_charOf ev_X9_charOf_107
noncomputable def h0_X9_charOf_108 : zH 2 := (show zT 2 from (((25, 63, bg_7), (0, 66, bg_6)), ((0, 11, bg_13), (0, 0, 0))), (3, (0, 0)))
noncomputable def h1_X9_charOf_108 : zH 2 := (show zT 2 from (((25, 63, bg_7), (0, 66, bg_6)), ((0, 11, bg_13), (0, 0, 0))), (3, (0, 0)))
theorem ev_X9_charOf_108 : f_X9_charOf [zR 1, zI 1071, zI 9, zI 0] h0_X9_charOf_108 (zrk (zI 3) h1_X9_charOf_108) = true := by decide +kernel
noncomputable def g_X9_charOf_108 {d : Nat} : List zV → zH d → zP d → Bool := zsmy [(0, 0), (1, 3), (1, 4)] [zR 1, zI 1071, zI 9, zI 0] h0_X9_charOf_108 (zI 3) h1_X9_charOf_108
theorem mg_X9_charOf_108 {d : Nat} : zMet (d := d) X_X9_charOf yX9_charOf 9 g_X9_charOf_108 := zMet_sm m_X9_charOf ev_X9_charOf_108
noncomputable def h0_X9_charOf_109 : zH 2 := (show zT 2 from (((25, 63, bg_7), (0, 66, bg_6)), ((0, 11, bg_13), (0, 0, 0))), (3, (0, 0)))
noncomputable def h1_X9_charOf_109 : zH 2 := (show zT 2 from (((25, 63, bg_7), (0, 66, bg_6)), ((0, 11, bg_13), (0, 0, 0))), (3, (0, 0)))
theorem ev_X9_charOf_109 : f_X9_charOf [zR 1, zI 1071, zI 10, zI 0] h0_X9_charOf_109 (zrk (zI 5) h1_X9_charOf_109) = true := by decide +kernel
noncomputable def g_X9_charOf_109 {d : Nat} : List zV → zH d → zP d → Bool := zsmy [(0, 0), (1, 3), (1, 4)] [zR 1, zI 1071, zI 10, zI 0] h0_X9_charOf_109 (zI 5) h1_X9_charOf_109
theorem mg_X9_charOf_109 {d : Nat} : zMet (d := d) X_X9_charOf yX9_charOf 9 g_X9_charOf_109 := zMet_sm m_X9_charOf ev_X9_charOf_109
noncomputable def h0_X9_charOf_110 : zH 2 := (show zT 2 from (((25, 63, bg_7), (0, 66, bg_6)), ((0, 11, bg_13), (0, 0, 0))), (3, (0, 0)))
noncomputable def h1_X9_charOf_110 : zH 2 := (show zT 2 from (((25, 63, bg_7), (0, 66, bg_6)), ((0, 11, bg_13), (0, 0, 0))), (3, (0, 0)))
theorem ev_X9_charOf_110 : f_X9_charOf [zR 1, zI 591, zI 0, zI 0] h0_X9_charOf_110 (zrk (zI 0) h1_X9_charOf_110) = true := by decide +kernel
noncomputable def g_X9_charOf_110 {d : Nat} : List zV → zH d → zP d → Bool := zsmy [(0, 0), (1, 3), (1, 4)] [zR 1, zI 591, zI 0, zI 0] h0_X9_charOf_110 (zI 0) h1_X9_charOf_110
theorem mg_X9_charOf_110 {d : Nat} : zMet (d := d) X_X9_charOf yX9_charOf 9 g_X9_charOf_110 := zMet_sm m_X9_charOf ev_X9_charOf_110
noncomputable def h0_X9_charOf_111 : zH 2 := (show zT 2 from (((25, 63, bg_7), (0, 66, bg_6)), ((0, 11, bg_13), (0, 0, 0))), (3, (0, 0)))
noncomputable def h1_X9_charOf_111 : zH 2 := (show zT 2 from (((25, 63, bg_7), (0, 66, bg_6)), ((0, 11, bg_13), (0, 0, 0))), (3, (0, 0)))
theorem ev_X9_charOf_111 : f_X9_charOf [zR 1, zI 591, zI 1, zI 0] h0_X9_charOf_111 (zrk (zI 4294967295) h1_X9_charOf_111) = true := by decide +kernel
noncomputable def g_X9_charOf_111 {d : Nat} : List zV → zH d → zP d → Bool := zsmy [(0, 0), (1, 3), (1, 4)] [zR 1, zI 591, zI 1, zI 0] h0_X9_charOf_111 (zI 4294967295) h1_X9_charOf_111
theorem mg_X9_charOf_111 {d : Nat} : zMet (d := d) X_X9_charOf yX9_charOf 9 g_X9_charOf_111 := zMet_sm m_X9_charOf ev_X9_charOf_111
noncomputable def h0_X9_charOf_112 : zH 2 := (show zT 2 from (((25, 63, bg_7), (0, 66, bg_6)), ((0, 11, bg_13), (0, 0, 0))), (3, (0, 0)))
noncomputable def h1_X9_charOf_112 : zH 2 := (show zT 2 from (((25, 63, bg_7), (0, 66, bg_6)), ((0, 11, bg_13), (0, 0, 0))), (3, (0, 0)))
theorem ev_X9_charOf_112 : f_X9_charOf [zR 1, zI 591, zI 2, zI 0] h0_X9_charOf_112 (zrk (zI 1) h1_X9_charOf_112) = true := by decide +kernel
noncomputable def g_X9_charOf_112 {d : Nat} : List zV → zH d → zP d → Bool := zsmy [(0, 0), (1, 3), (1, 4)] [zR 1, zI 591, zI 2, zI 0] h0_X9_charOf_112 (zI 1) h1_X9_charOf_112
theorem mg_X9_charOf_112 {d : Nat} : zMet (d := d) X_X9_charOf yX9_charOf 9 g_X9_charOf_112 := zMet_sm m_X9_charOf ev_X9_charOf_112
noncomputable def h0_X9_charOf_113 : zH 2 := (show zT 2 from (((25, 63, bg_7), (0, 66, bg_6)), ((0, 11, bg_13), (0, 0, 0))), (3, (0, 0)))
noncomputable def h1_X9_charOf_113 : zH 2 := (show zT 2 from (((25, 63, bg_7), (0, 66, bg_6)), ((0, 11, bg_13), (0, 0, 0))), (3, (0, 0)))
theorem ev_X9_charOf_113 : f_X9_charOf [zR 1, zI 591, zI 3, zI 0] h0_X9_charOf_113 (zrk (zI 4294967295) h1_X9_charOf_113) = true := by decide +kernel
noncomputable def g_X9_charOf_113 {d : Nat} : List zV → zH d → zP d → Bool := zsmy [(0, 0), (1, 3), (1, 4)] [zR 1, zI 591, zI 3, zI 0] h0_X9_charOf_113 (zI 4294967295) h1_X9_charOf_113
theorem mg_X9_charOf_113 {d : Nat} : zMet (d := d) X_X9_charOf yX9_charOf 9 g_X9_charOf_113 := zMet_sm m_X9_charOf ev_X9_charOf_113
noncomputable def h0_X9_charOf_114 : zH 2 := (show zT 2 from (((25, 63, bg_7), (0, 66, bg_6)), ((0, 11, bg_13), (0, 0, 0))), (3, (0, 0)))
noncomputable def h1_X9_charOf_114 : zH 2 := (show zT 2 from (((25, 63, bg_7), (0, 66, bg_6)), ((0, 11, bg_13), (0, 0, 0))), (3, (0, 0)))
theorem ev_X9_charOf_114 : f_X9_charOf [zR 1, zI 591, zI 4, zI 0] h0_X9_charOf_114 (zrk (zI 0) h1_X9_charOf_114) = true := by decide +kernel
noncomputable def g_X9_charOf_114 {d : Nat} : List zV → zH d → zP d → Bool := zsmy [(0, 0), (1, 3), (1, 4)] [zR 1, zI 591, zI 4, zI 0] h0_X9_charOf_114 (zI 0) h1_X9_charOf_114
theorem mg_X9_charOf_114 {d : Nat} : zMet (d := d) X_X9_charOf yX9_charOf 9 g_X9_charOf_114 := zMet_sm m_X9_charOf ev_X9_charOf_114
noncomputable def h0_X9_charOf_115 : zH 2 := (show zT 2 from (((25, 63, bg_7), (0, 66, bg_6)), ((0, 11, bg_13), (0, 0, 0))), (3, (0, 0)))
noncomputable def h1_X9_charOf_115 : zH 2 := (show zT 2 from (((25, 63, bg_7), (0, 66, bg_6)), ((0, 11, bg_13), (0, 0, 0))), (3, (0, 0)))
theorem ev_X9_charOf_115 : f_X9_charOf [zR 1, zI 591, zI 5, zI 0] h0_X9_charOf_115 (zrk (zI 0) h1_X9_charOf_115) = true := by decide +kernel
noncomputable def g_X9_charOf_115 {d : Nat} : List zV → zH d → zP d → Bool := zsmy [(0, 0), (1, 3), (1, 4)] [zR 1, zI 591, zI 5, zI 0] h0_X9_charOf_115 (zI 0) h1_X9_charOf_115
theorem mg_X9_charOf_115 {d : Nat} : zMet (d := d) X_X9_charOf yX9_charOf 9 g_X9_charOf_115 := zMet_sm m_X9_charOf ev_X9_charOf_115
noncomputable def h0_X9_charOf_116 : zH 2 := (show zT 2 from (((25, 63, bg_7), (0, 66, bg_6)), ((0, 11, bg_13), (0, 0, 0))), (3, (0, 0)))
noncomputable def h1_X9_charOf_116 : zH 2 := (show zT 2 from (((25, 63, bg_7), (0, 66, bg_6)), ((0, 11, bg_13), (0, 0, 0))), (3, (0, 0)))
theorem ev_X9_charOf_116 : f_X9_charOf [zR 1, zI 591, zI 6, zI 0] h0_X9_charOf_116 (zrk (zI 0) h1_X9_charOf_116) = true := by decide +kernel
noncomputable def g_X9_charOf_116 {d : Nat} : List zV → zH d → zP d → Bool := zsmy [(0, 0), (1, 3), (1, 4)] [zR 1, zI 591, zI 6, zI 0] h0_X9_charOf_116 (zI 0) h1_X9_charOf_116
theorem mg_X9_charOf_116 {d : Nat} : zMet (d := d) X_X9_charOf yX9_charOf 9 g_X9_charOf_116 := zMet_sm m_X9_charOf ev_X9_charOf_116
noncomputable def h0_X9_charOf_117 : zH 2 := (show zT 2 from (((25, 63, bg_7), (0, 66, bg_6)), ((0, 11, bg_13), (0, 0, 0))), (3, (0, 0)))
noncomputable def h1_X9_charOf_117 : zH 2 := (show zT 2 from (((25, 63, bg_7), (0, 66, bg_6)), ((0, 11, bg_13), (0, 0, 0))), (3, (0, 0)))
theorem ev_X9_charOf_117 : f_X9_charOf [zR 1, zI 591, zI 7, zI 0] h0_X9_charOf_117 (zrk (zI 3) h1_X9_charOf_117) = true := by decide +kernel
noncomputable def g_X9_charOf_117 {d : Nat} : List zV → zH d → zP d → Bool := zsmy [(0, 0), (1, 3), (1, 4)] [zR 1, zI 591, zI 7, zI 0] h0_X9_charOf_117 (zI 3) h1_X9_charOf_117
theorem mg_X9_charOf_117 {d : Nat} : zMet (d := d) X_X9_charOf yX9_charOf 9 g_X9_charOf_117 := zMet_sm m_X9_charOf ev_X9_charOf_117
noncomputable def h0_X9_charOf_118 : zH 2 := (show zT 2 from (((25, 63, bg_7), (0, 66, bg_6)), ((0, 11, bg_13), (0, 0, 0))), (3, (0, 0)))
noncomputable def h1_X9_charOf_118 : zH 2 := (show zT 2 from (((25, 63, bg_7), (0, 66, bg_6)), ((0, 11, bg_13), (0, 0, 0))), (3, (0, 0)))
theorem ev_X9_charOf_118 : f_X9_charOf [zR 1, zI 591, zI 8, zI 0] h0_X9_charOf_118 (zrk (zI 1) h1_X9_charOf_118) = true := by decide +kernel
noncomputable def g_X9_charOf_118 {d : Nat} : List zV → zH d → zP d → Bool := zsmy [(0, 0), (1, 3), (1, 4)] [zR 1, zI 591, zI 8, zI 0] h0_X9_charOf_118 (zI 1) h1_X9_charOf_118
theorem mg_X9_charOf_118 {d : Nat} : zMet (d := d) X_X9_charOf yX9_charOf 9 g_X9_charOf_118 := zMet_sm m_X9_charOf ev_X9_charOf_118
noncomputable def h0_X9_charOf_119 : zH 2 := (show zT 2 from (((25, 63, bg_7), (0, 66, bg_6)), ((0, 11, bg_13), (0, 0, 0))), (3, (0, 0)))
noncomputable def h1_X9_charOf_119 : zH 2 := (show zT 2 from (((25, 63, bg_7), (0, 66, bg_6)), ((0, 11, bg_13), (0, 0, 0))), (3, (0, 0)))
theorem ev_X9_charOf_119 : f_X9_charOf [zR 1, zI 591, zI 9, zI 0] h0_X9_charOf_119 (zrk (zI 3) h1_X9_charOf_119) = true := by decide +kernel
noncomputable def g_X9_charOf_119 {d : Nat} : List zV → zH d → zP d → Bool := zsmy [(0, 0), (1, 3), (1, 4)] [zR 1, zI 591, zI 9, zI 0] h0_X9_charOf_119 (zI 3) h1_X9_charOf_119
theorem mg_X9_charOf_119 {d : Nat} : zMet (d := d) X_X9_charOf yX9_charOf 9 g_X9_charOf_119 := zMet_sm m_X9_charOf ev_X9_charOf_119
noncomputable def h0_X9_charOf_120 : zH 2 := (show zT 2 from (((25, 63, bg_7), (0, 66, bg_6)), ((0, 11, bg_13), (0, 0, 0))), (3, (0, 0)))
noncomputable def h1_X9_charOf_120 : zH 2 := (show zT 2 from (((25, 63, bg_7), (0, 66, bg_6)), ((0, 11, bg_13), (0, 0, 0))), (3, (0, 0)))
theorem ev_X9_charOf_120 : f_X9_charOf [zR 1, zI 591, zI 10, zI 0] h0_X9_charOf_120 (zrk (zI 9) h1_X9_charOf_120) = true := by decide +kernel
noncomputable def g_X9_charOf_120 {d : Nat} : List zV → zH d → zP d → Bool := zsmy [(0, 0), (1, 3), (1, 4)] [zR 1, zI 591, zI 10, zI 0] h0_X9_charOf_120 (zI 9) h1_X9_charOf_120
theorem mg_X9_charOf_120 {d : Nat} : zMet (d := d) X_X9_charOf yX9_charOf 9 g_X9_charOf_120 := zMet_sm m_X9_charOf ev_X9_charOf_120
noncomputable def h0_X9_charOf_121 : zH 2 := (show zT 2 from (((25, 63, bg_7), (0, 66, bg_6)), ((0, 11, bg_13), (0, 0, 0))), (3, (0, 0)))
noncomputable def h1_X9_charOf_121 : zH 2 := (show zT 2 from (((25, 63, bg_7), (0, 66, bg_6)), ((0, 11, bg_13), (0, 0, 0))), (3, (0, 0)))
theorem ev_X9_charOf_121 : f_X9_charOf [zR 1, zI 567, zI 0, zI 0] h0_X9_charOf_121 (zrk (zI 1) h1_X9_charOf_121) = true := by decide +kernel
noncomputable def g_X9_charOf_121 {d : Nat} : List zV → zH d → zP d → Bool := zsmy [(0, 0), (1, 3), (1, 4)] [zR 1, zI 567, zI 0, zI 0] h0_X9_charOf_121 (zI 1) h1_X9_charOf_121
theorem mg_X9_charOf_121 {d : Nat} : zMet (d := d) X_X9_charOf yX9_charOf 9 g_X9_charOf_121 := zMet_sm m_X9_charOf ev_X9_charOf_121
noncomputable def h0_X9_charOf_122 : zH 2 := (show zT 2 from (((25, 63, bg_7), (0, 66, bg_6)), ((0, 11, bg_13), (0, 0, 0))), (3, (0, 0)))
noncomputable def h1_X9_charOf_122 : zH 2 := (show zT 2 from (((25, 63, bg_7), (0, 66, bg_6)), ((0, 11, bg_13), (0, 0, 0))), (3, (0, 0)))
theorem ev_X9_charOf_122 : f_X9_charOf [zR 1, zI 567, zI 1, zI 0] h0_X9_charOf_122 (zrk (zI 0) h1_X9_charOf_122) = true := by decide +kernel
noncomputable def g_X9_charOf_122 {d : Nat} : List zV → zH d → zP d → Bool := zsmy [(0, 0), (1, 3), (1, 4)] [zR 1, zI 567, zI 1, zI 0] h0_X9_charOf_122 (zI 0) h1_X9_charOf_122
theorem mg_X9_charOf_122 {d : Nat} : zMet (d := d) X_X9_charOf yX9_charOf 9 g_X9_charOf_122 := zMet_sm m_X9_charOf ev_X9_charOf_122
noncomputable def h0_X9_charOf_123 : zH 2 := (show zT 2 from (((25, 63, bg_7), (0, 66, bg_6)), ((0, 11, bg_13), (0, 0, 0))), (3, (0, 0)))
noncomputable def h1_X9_charOf_123 : zH 2 := (show zT 2 from (((25, 63, bg_7), (0, 66, bg_6)), ((0, 11, bg_13), (0, 0, 0))), (3, (0, 0)))
theorem ev_X9_charOf_123 : f_X9_charOf [zR 1, zI 567, zI 2, zI 0] h0_X9_charOf_123 (zrk (zI 0) h1_X9_charOf_123) = true := by decide +kernel
noncomputable def g_X9_charOf_123 {d : Nat} : List zV → zH d → zP d → Bool := zsmy [(0, 0), (1, 3), (1, 4)] [zR 1, zI 567, zI 2, zI 0] h0_X9_charOf_123 (zI 0) h1_X9_charOf_123
theorem mg_X9_charOf_123 {d : Nat} : zMet (d := d) X_X9_charOf yX9_charOf 9 g_X9_charOf_123 := zMet_sm m_X9_charOf ev_X9_charOf_123
noncomputable def h0_X9_charOf_124 : zH 2 := (show zT 2 from (((25, 63, bg_7), (0, 66, bg_6)), ((0, 11, bg_13), (0, 0, 0))), (3, (0, 0)))
noncomputable def h1_X9_charOf_124 : zH 2 := (show zT 2 from (((25, 63, bg_7), (0, 66, bg_6)), ((0, 11, bg_13), (0, 0, 0))), (3, (0, 0)))
theorem ev_X9_charOf_124 : f_X9_charOf [zR 1, zI 567, zI 3, zI 0] h0_X9_charOf_124 (zrk (zI 0) h1_X9_charOf_124) = true := by decide +kernel
noncomputable def g_X9_charOf_124 {d : Nat} : List zV → zH d → zP d → Bool := zsmy [(0, 0), (1, 3), (1, 4)] [zR 1, zI 567, zI 3, zI 0] h0_X9_charOf_124 (zI 0) h1_X9_charOf_124
theorem mg_X9_charOf_124 {d : Nat} : zMet (d := d) X_X9_charOf yX9_charOf 9 g_X9_charOf_124 := zMet_sm m_X9_charOf ev_X9_charOf_124
noncomputable def h0_X9_charOf_125 : zH 2 := (show zT 2 from (((25, 63, bg_7), (0, 66, bg_6)), ((0, 11, bg_13), (0, 0, 0))), (3, (0, 0)))
noncomputable def h1_X9_charOf_125 : zH 2 := (show zT 2 from (((25, 63, bg_7), (0, 66, bg_6)), ((0, 11, bg_13), (0, 0, 0))), (3, (0, 0)))
theorem ev_X9_charOf_125 : f_X9_charOf [zR 1, zI 567, zI 4, zI 0] h0_X9_charOf_125 (zrk (zI 1) h1_X9_charOf_125) = true := by decide +kernel
noncomputable def g_X9_charOf_125 {d : Nat} : List zV → zH d → zP d → Bool := zsmy [(0, 0), (1, 3), (1, 4)] [zR 1, zI 567, zI 4, zI 0] h0_X9_charOf_125 (zI 1) h1_X9_charOf_125
theorem mg_X9_charOf_125 {d : Nat} : zMet (d := d) X_X9_charOf yX9_charOf 9 g_X9_charOf_125 := zMet_sm m_X9_charOf ev_X9_charOf_125
noncomputable def h0_X9_charOf_126 : zH 2 := (show zT 2 from (((25, 63, bg_7), (0, 66, bg_6)), ((0, 11, bg_13), (0, 0, 0))), (3, (0, 0)))
noncomputable def h1_X9_charOf_126 : zH 2 := (show zT 2 from (((25, 63, bg_7), (0, 66, bg_6)), ((0, 11, bg_13), (0, 0, 0))), (3, (0, 0)))
theorem ev_X9_charOf_126 : f_X9_charOf [zR 1, zI 567, zI 5, zI 0] h0_X9_charOf_126 (zrk (zI 4294967295) h1_X9_charOf_126) = true := by decide +kernel
noncomputable def g_X9_charOf_126 {d : Nat} : List zV → zH d → zP d → Bool := zsmy [(0, 0), (1, 3), (1, 4)] [zR 1, zI 567, zI 5, zI 0] h0_X9_charOf_126 (zI 4294967295) h1_X9_charOf_126
theorem mg_X9_charOf_126 {d : Nat} : zMet (d := d) X_X9_charOf yX9_charOf 9 g_X9_charOf_126 := zMet_sm m_X9_charOf ev_X9_charOf_126
noncomputable def h0_X9_charOf_127 : zH 2 := (show zT 2 from (((25, 63, bg_7), (0, 66, bg_6)), ((0, 11, bg_13), (0, 0, 0))), (3, (0, 0)))
noncomputable def h1_X9_charOf_127 : zH 2 := (show zT 2 from (((25, 63, bg_7), (0, 66, bg_6)), ((0, 11, bg_13), (0, 0, 0))), (3, (0, 0)))
theorem ev_X9_charOf_127 : f_X9_charOf [zR 1, zI 567, zI 6, zI 0] h0_X9_charOf_127 (zrk (zI 1) h1_X9_charOf_127) = true := by decide +kernel
noncomputable def g_X9_charOf_127 {d : Nat} : List zV → zH d → zP d → Bool := zsmy [(0, 0), (1, 3), (1, 4)] [zR 1, zI 567, zI 6, zI 0] h0_X9_charOf_127 (zI 1) h1_X9_charOf_127
theorem mg_X9_charOf_127 {d : Nat} : zMet (d := d) X_X9_charOf yX9_charOf 9 g_X9_charOf_127 := zMet_sm m_X9_charOf ev_X9_charOf_127
