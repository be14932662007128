/-! the reference by summaries, by program -/
noncomputable def h0_X9_charOf_128 : zH 2 := (show zT 2 from (((25, 63, bg_7), (0, 66, bg_6)), ((0, 11, bg_13), (0, 0, 0))), (3, (0, 0)))
noncomputable def h1_X9_charOf_128 : zH 2 := (show zT 2 from (((25, 63, bg_7), (0, 66, bg_6)), ((0, 11, bg_13), (0, 0, 0))), (3, (0, 0)))
theorem ev_X9_charOf_128 : f_X9_charOf [zR 1, zI 567, zI 7, zI 0] h0_X9_charOf_128 (zrk (zI 4294967294) h1_X9_charOf_128) = true := by decide +kernel
noncomputable def g_X9_charOf_128 {d : Nat} : List zV → zH d → zP d → Bool := zsmy [(0, 0), (1, 3), (1, 4)] [zR 1, zI 567, zI 7, zI 0] h0_X9_charOf_128 (zI 4294967294) h1_X9_charOf_128
theorem mg_X9_charOf_128 {d : Nat} : zMet (d := d) X_X9_charOf yX9_charOf 9 g_X9_charOf_128 := zMet_sm m_X9_charOf ev_X9_charOf_128
noncomputable def h0_X9_charOf_129 : zH 2 := (show zT 2 from (((25, 63, bg_7), (0, 66, bg_6)), ((0, 11, bg_13), (0, 0, 0))), (3, (0, 0)))
noncomputable def h1_X9_charOf_129 : zH 2 := (show zT 2 from (((25, 63, bg_7), (0, 66, bg_6)), ((0, 11, bg_13), (0, 0, 0))), (3, (0, 0)))
theorem ev_X9_charOf_129 : f_X9_charOf [zR 1, zI 567, zI 8, zI 0] h0_X9_charOf_129 (zrk (zI 4294967294) h1_X9_charOf_129) = true := by decide +kernel
noncomputable def g_X9_charOf_129 {d : Nat} : List zV → zH d → zP d → Bool := zsmy [(0, 0), (1, 3), (1, 4)] [zR 1, zI 567, zI 8, zI 0] h0_X9_charOf_129 (zI 4294967294) h1_X9_charOf_129
theorem mg_X9_charOf_129 {d : Nat} : zMet (d := d) X_X9_charOf yX9_charOf 9 g_X9_charOf_129 := zMet_sm m_X9_charOf ev_X9_charOf_129
noncomputable def h0_X9_charOf_130 : zH 2 := (show zT 2 from (((25, 63, bg_7), (0, 66, bg_6)), ((0, 11, bg_13), (0, 0, 0))), (3, (0, 0)))
noncomputable def h1_X9_charOf_130 : zH 2 := (show zT 2 from (((25, 63, bg_7), (0, 66, bg_6)), ((0, 11, bg_13), (0, 0, 0))), (3, (0, 0)))
theorem ev_X9_charOf_130 : f_X9_charOf [zR 1, zI 567, zI 9, zI 0] h0_X9_charOf_130 (zrk (zI 2) h1_X9_charOf_130) = true := by decide +kernel
noncomputable def g_X9_charOf_130 {d : Nat} : List zV → zH d → zP d → Bool := zsmy [(0, 0), (1, 3), (1, 4)] [zR 1, zI 567, zI 9, zI 0] h0_X9_charOf_130 (zI 2) h1_X9_charOf_130
theorem mg_X9_charOf_130 {d : Nat} : zMet (d := d) X_X9_charOf yX9_charOf 9 g_X9_charOf_130 := zMet_sm m_X9_charOf ev_X9_charOf_130
noncomputable def h0_X9_charOf_131 : zH 2 := (show zT 2 from (((25, 63, bg_7), (0, 66, bg_6)), ((0, 11, bg_13), (0, 0, 0))), (3, (0, 0)))
noncomputable def h1_X9_charOf_131 : zH 2 := (show zT 2 from (((25, 63, bg_7), (0, 66, bg_6)), ((0, 11, bg_13), (0, 0, 0))), (3, (0, 0)))
theorem ev_X9_charOf_131 : f_X9_charOf [zR 1, zI 567, zI 10, zI 0] h0_X9_charOf_131 (zrk (zI 10) h1_X9_charOf_131) = true := by decide +kernel
noncomputable def g_X9_charOf_131 {d : Nat} : List zV → zH d → zP d → Bool := zsmy [(0, 0), (1, 3), (1, 4)] [zR 1, zI 567, zI 10, zI 0] h0_X9_charOf_131 (zI 10) h1_X9_charOf_131
theorem mg_X9_charOf_131 {d : Nat} : zMet (d := d) X_X9_charOf yX9_charOf 9 g_X9_charOf_131 := zMet_sm m_X9_charOf ev_X9_charOf_131
noncomputable def h0_X9_charOf_132 : zH 2 := (show zT 2 from (((25, 63, bg_7), (0, 66, bg_6)), ((0, 11, bg_13), (0, 0, 0))), (3, (0, 0)))
noncomputable def h1_X9_charOf_132 : zH 2 := (show zT 2 from (((25, 63, bg_7), (0, 66, bg_6)), ((0, 11, bg_13), (0, 0, 0))), (3, (0, 0)))
theorem ev_X9_charOf_132 : f_X9_charOf [zR 1, zI 399, zI 0, zI 0] h0_X9_charOf_132 (zrk (zI 0) h1_X9_charOf_132) = true := by decide +kernel
noncomputable def g_X9_charOf_132 {d : Nat} : List zV → zH d → zP d → Bool := zsmy [(0, 0), (1, 3), (1, 4)] [zR 1, zI 399, zI 0, zI 0] h0_X9_charOf_132 (zI 0) h1_X9_charOf_132
theorem mg_X9_charOf_132 {d : Nat} : zMet (d := d) X_X9_charOf yX9_charOf 9 g_X9_charOf_132 := zMet_sm m_X9_charOf ev_X9_charOf_132
noncomputable def h0_X9_charOf_133 : zH 2 := (show zT 2 from (((25, 63, bg_7), (0, 66, bg_6)), ((0, 11, bg_13), (0, 0, 0))), (3, (0, 0)))
noncomputable def h1_X9_charOf_133 : zH 2 := (show zT 2 from (((25, 63, bg_7), (0, 66, bg_6)), ((0, 11, bg_13), (0, 0, 0))), (3, (0, 0)))
theorem ev_X9_charOf_133 : f_X9_charOf [zR 1, zI 399, zI 1, zI 0] h0_X9_charOf_133 (zrk (zI 0) h1_X9_charOf_133) = true := by decide +kernel
noncomputable def g_X9_charOf_133 {d : Nat} : List zV → zH d → zP d → Bool := zsmy [(0, 0), (1, 3), (1, 4)] [zR 1, zI 399, zI 1, zI 0] h0_X9_charOf_133 (zI 0) h1_X9_charOf_133
theorem mg_X9_charOf_133 {d : Nat} : zMet (d := d) X_X9_charOf yX9_charOf 9 g_X9_charOf_133 := zMet_sm m_X9_charOf ev_X9_charOf_133
noncomputable def h0_X9_charOf_134 : zH 2 := (show zT 2 from (((25, 63, bg_7), (0, 66, bg_6)), ((0, 11, bg_13), (0, 0, 0))), (3, (0, 0)))
noncomputable def h1_X9_charOf_134 : zH 2 := (show zT 2 from (((25, 63, bg_7), (0, 66, bg_6)), ((0, 11, bg_13), (0, 0, 0))), (3, (0, 0)))
theorem ev_X9_charOf_134 : f_X9_charOf [zR 1, zI 399, zI 2, zI 0] h0_X9_charOf_134 (zrk (zI 4294967295) h1_X9_charOf_134) = true := by decide +kernel
noncomputable def g_X9_charOf_134 {d : Nat} : List zV → zH d → zP d → Bool := zsmy [(0, 0), (1, 3), (1, 4)] [zR 1, zI 399, zI 2, zI 0] h0_X9_charOf_134 (zI 4294967295) h1_X9_charOf_134
theorem mg_X9_charOf_134 {d : Nat} : zMet (d := d) X_X9_charOf yX9_charOf 9 g_X9_charOf_134 := zMet_sm m_X9_charOf ev_X9_charOf_134
noncomputable def h0_X9_charOf_135 : zH 2 := (show zT 2 from (((25, 63, bg_7), (0, 66, bg_6)), ((0, 11, bg_13), (0, 0, 0))), (3, (0, 0)))
noncomputable def h1_X9_charOf_135 : zH 2 := (show zT 2 from (((25, 63, bg_7), (0, 66, bg_6)), ((0, 11, bg_13), (0, 0, 0))), (3, (0, 0)))
theorem ev_X9_charOf_135 : f_X9_charOf [zR 1, zI 399, zI 3, zI 0] h0_X9_charOf_135 (zrk (zI 4294967295) h1_X9_charOf_135) = true := by decide +kernel
noncomputable def g_X9_charOf_135 {d : Nat} : List zV → zH d → zP d → Bool := zsmy [(0, 0), (1, 3), (1, 4)] [zR 1, zI 399, zI 3, zI 0] h0_X9_charOf_135 (zI 4294967295) h1_X9_charOf_135
theorem mg_X9_charOf_135 {d : Nat} : zMet (d := d) X_X9_charOf yX9_charOf 9 g_X9_charOf_135 := zMet_sm m_X9_charOf ev_X9_charOf_135
noncomputable def h0_X9_charOf_136 : zH 2 := (show zT 2 from (((25, 63, bg_7), (0, 66, bg_6)), ((0, 11, bg_13), (0, 0, 0))), (3, (0, 0)))
noncomputable def h1_X9_charOf_136 : zH 2 := (show zT 2 from (((25, 63, bg_7), (0, 66, bg_6)), ((0, 11, bg_13), (0, 0, 0))), (3, (0, 0)))
theorem ev_X9_charOf_136 : f_X9_charOf [zR 1, zI 399, zI 4, zI 0] h0_X9_charOf_136 (zrk (zI 2) h1_X9_charOf_136) = true := by decide +kernel
noncomputable def g_X9_charOf_136 {d : Nat} : List zV → zH d → zP d → Bool := zsmy [(0, 0), (1, 3), (1, 4)] [zR 1, zI 399, zI 4, zI 0] h0_X9_charOf_136 (zI 2) h1_X9_charOf_136
theorem mg_X9_charOf_136 {d : Nat} : zMet (d := d) X_X9_charOf yX9_charOf 9 g_X9_charOf_136 := zMet_sm m_X9_charOf ev_X9_charOf_136
noncomputable def h0_X9_charOf_137 : zH 2 := (show zT 2 from (((25, 63, bg_7), (0, 66, bg_6)), ((0, 11, bg_13), (0, 0, 0))), (3, (0, 0)))
noncomputable def h1_X9_charOf_137 : zH 2 := (show zT 2 from (((25, 63, bg_7), (0, 66, bg_6)), ((0, 11, bg_13), (0, 0, 0))), (3, (0, 0)))
theorem ev_X9_charOf_137 : f_X9_charOf [zR 1, zI 399, zI 5, zI 0] h0_X9_charOf_137 (zrk (zI 1) h1_X9_charOf_137) = true := by decide +kernel
noncomputable def g_X9_charOf_137 {d : Nat} : List zV → zH d → zP d → Bool := zsmy [(0, 0), (1, 3), (1, 4)] [zR 1, zI 399, zI 5, zI 0] h0_X9_charOf_137 (zI 1) h1_X9_charOf_137
theorem mg_X9_charOf_137 {d : Nat} : zMet (d := d) X_X9_charOf yX9_charOf 9 g_X9_charOf_137 := zMet_sm m_X9_charOf ev_X9_charOf_137
noncomputable def h0_X9_charOf_138 : zH 2 := (show zT 2 from (((25, 63, bg_7), (0, 66, bg_6)), ((0, 11, bg_13), (0, 0, 0))), (3, (0, 0)))
noncomputable def h1_X9_charOf_138 : zH 2 := (show zT 2 from (((25, 63, bg_7), (0, 66, bg_6)), ((0, 11, bg_13), (0, 0, 0))), (3, (0, 0)))
theorem ev_X9_charOf_138 : f_X9_charOf [zR 1, zI 399, zI 6, zI 0] h0_X9_charOf_138 (zrk (zI 4294967295) h1_X9_charOf_138) = true := by decide +kernel
noncomputable def g_X9_charOf_138 {d : Nat} : List zV → zH d → zP d → Bool := zsmy [(0, 0), (1, 3), (1, 4)] [zR 1, zI 399, zI 6, zI 0] h0_X9_charOf_138 (zI 4294967295) h1_X9_charOf_138
theorem mg_X9_charOf_138 {d : Nat} : zMet (d := d) X_X9_charOf yX9_charOf 9 g_X9_charOf_138 := zMet_sm m_X9_charOf ev_X9_charOf_138
noncomputable def h0_X9_charOf_139 : zH 2 := (show zT 2 from (((25, 63, bg_7), (0, 66, bg_6)), ((0, 11, bg_13), (0, 0, 0))), (3, (0, 0)))
noncomputable def h1_X9_charOf_139 : zH 2 := (show zT 2 from (((25, 63, bg_7), (0, 66, bg_6)), ((0, 11, bg_13), (0, 0, 0))), (3, (0, 0)))
theorem ev_X9_charOf_139 : f_X9_charOf [zR 1, zI 399, zI 7, zI 0] h0_X9_charOf_139 (zrk (zI 4294967293) h1_X9_charOf_139) = true := by decide +kernel
noncomputable def g_X9_charOf_139 {d : Nat} : List zV → zH d → zP d → Bool := zsmy [(0, 0), (1, 3), (1, 4)] [zR 1, zI 399, zI 7, zI 0] h0_X9_charOf_139 (zI 4294967293) h1_X9_charOf_139
theorem mg_X9_charOf_139 {d : Nat} : zMet (d := d) X_X9_charOf yX9_charOf 9 g_X9_charOf_139 := zMet_sm m_X9_charOf ev_X9_charOf_139
noncomputable def h0_X9_charOf_140 : zH 2 := (show zT 2 from (((25, 63, bg_7), (0, 66, bg_6)), ((0, 11, bg_13), (0, 0, 0))), (3, (0, 0)))
noncomputable def h1_X9_charOf_140 : zH 2 := (show zT 2 from (((25, 63, bg_7), (0, 66, bg_6)), ((0, 11, bg_13), (0, 0, 0))), (3, (0, 0)))
theorem ev_X9_charOf_140 : f_X9_charOf [zR 1, zI 399, zI 8, zI 0] h0_X9_charOf_140 (zrk (zI 1) h1_X9_charOf_140) = true := by decide +kernel
noncomputable def g_X9_charOf_140 {d : Nat} : List zV → zH d → zP d → Bool := zsmy [(0, 0), (1, 3), (1, 4)] [zR 1, zI 399, zI 8, zI 0] h0_X9_charOf_140 (zI 1) h1_X9_charOf_140
theorem mg_X9_charOf_140 {d : Nat} : zMet (d := d) X_X9_charOf yX9_charOf 9 g_X9_charOf_140 := zMet_sm m_X9_charOf ev_X9_charOf_140
noncomputable def h0_X9_charOf_141 : zH 2 := (show zT 2 from (((25, 63, bg_7), (0, 66, bg_6)), ((0, 11, bg_13), (0, 0, 0))), (3, (0, 0)))
noncomputable def h1_X9_charOf_141 : zH 2 := (show zT 2 from (((25, 63, bg_7), (0, 66, bg_6)), ((0, 11, bg_13), (0, 0, 0))), (3, (0, 0)))
theorem ev_X9_charOf_141 : f_X9_charOf [zR 1, zI 399, zI 9, zI 0] h0_X9_charOf_141 (zrk (zI 1) h1_X9_charOf_141) = true := by decide +kernel
noncomputable def g_X9_charOf_141 {d : Nat} : List zV → zH d → zP d → Bool := zsmy [(0, 0), (1, 3), (1, 4)] [zR 1, zI 399, zI 9, zI 0] h0_X9_charOf_141 (zI 1) h1_X9_charOf_141
theorem mg_X9_charOf_141 {d : Nat} : zMet (d := d) X_X9_charOf yX9_charOf 9 g_X9_charOf_141 := zMet_sm m_X9_charOf ev_X9_charOf_141
noncomputable def h0_X9_charOf_142 : zH 2 := (show zT 2 from (((25, 63, bg_7), (0, 66, bg_6)), ((0, 11, bg_13), (0, 0, 0))), (3, (0, 0)))
noncomputable def h1_X9_charOf_142 : zH 2 := (show zT 2 from (((25, 63, bg_7), (0, 66, bg_6)), ((0, 11, bg_13), (0, 0, 0))), (3, (0, 0)))
theorem ev_X9_charOf_142 : f_X9_charOf [zR 1, zI 399, zI 10, zI 0] h0_X9_charOf_142 (zrk (zI 5) h1_X9_charOf_142) = true := by decide +kernel
noncomputable def g_X9_charOf_142 {d : Nat} : List zV → zH d → zP d → Bool := zsmy [(0, 0), (1, 3), (1, 4)] [zR 1, zI 399, zI 10, zI 0] h0_X9_charOf_142 (zI 5) h1_X9_charOf_142
theorem mg_X9_charOf_142 {d : Nat} : zMet (d := d) X_X9_charOf yX9_charOf 9 g_X9_charOf_142 := zMet_sm m_X9_charOf ev_X9_charOf_142
noncomputable def h0_X9_charOf_143 : zH 2 := (show zT 2 from (((25, 63, bg_7), (0, 66, bg_6)), ((0, 11, bg_13), (0, 0, 0))), (3, (0, 0)))
noncomputable def h1_X9_charOf_143 : zH 2 := (show zT 2 from (((25, 63, bg_7), (0, 66, bg_6)), ((0, 11, bg_13), (0, 0, 0))), (3, (0, 0)))
theorem ev_X9_charOf_143 : f_X9_charOf [zR 1, zI 343, zI 0, zI 0] h0_X9_charOf_143 (zrk (zI 0) h1_X9_charOf_143) = true := by decide +kernel
noncomputable def g_X9_charOf_143 {d : Nat} : List zV → zH d → zP d → Bool := zsmy [(0, 0), (1, 3), (1, 4)] [zR 1, zI 343, zI 0, zI 0] h0_X9_charOf_143 (zI 0) h1_X9_charOf_143
theorem mg_X9_charOf_143 {d : Nat} : zMet (d := d) X_X9_charOf yX9_charOf 9 g_X9_charOf_143 := zMet_sm m_X9_charOf ev_X9_charOf_143
noncomputable def h0_X9_charOf_144 : zH 2 := (show zT 2 from (((25, 63, bg_7), (0, 66, bg_6)), ((0, 11, bg_13), (0, 0, 0))), (3, (0, 0)))
noncomputable def h1_X9_charOf_144 : zH 2 := (show zT 2 from (((25, 63, bg_7), (0, 66, bg_6)), ((0, 11, bg_13), (0, 0, 0))), (3, (0, 0)))
theorem ev_X9_charOf_144 : f_X9_charOf [zR 1, zI 343, zI 1, zI 0] h0_X9_charOf_144 (zrk (zI 1) h1_X9_charOf_144) = true := by decide +kernel
noncomputable def g_X9_charOf_144 {d : Nat} : List zV → zH d → zP d → Bool := zsmy [(0, 0), (1, 3), (1, 4)] [zR 1, zI 343, zI 1, zI 0] h0_X9_charOf_144 (zI 1) h1_X9_charOf_144
theorem mg_X9_charOf_144 {d : Nat} : zMet (d := d) X_X9_charOf yX9_charOf 9 g_X9_charOf_144 := zMet_sm m_X9_charOf ev_X9_charOf_144
noncomputable def h0_X9_charOf_145 : zH 2 := (show zT 2 from (((25, 63, bg_7), (0, 66, bg_6)), ((0, 11, bg_13), (0, 0, 0))), (3, (0, 0)))
noncomputable def h1_X9_charOf_145 : zH 2 := (show zT 2 from (((25, 63, bg_7), (0, 66, bg_6)), ((0, 11, bg_13), (0, 0, 0))), (3, (0, 0)))
theorem ev_X9_charOf_145 : f_X9_charOf [zR 1, zI 343, zI 2, zI 0] h0_X9_charOf_145 (zrk (zI 0) h1_X9_charOf_145) = true := by decide +kernel
noncomputable def g_X9_charOf_145 {d : Nat} : List zV → zH d → zP d → Bool := zsmy [(0, 0), (1, 3), (1, 4)] [zR 1, zI 343, zI 2, zI 0] h0_X9_charOf_145 (zI 0) h1_X9_charOf_145
theorem mg_X9_charOf_145 {d : Nat} : zMet (d := d) X_X9_charOf yX9_charOf 9 g_X9_charOf_145 := zMet_sm m_X9_charOf ev_X9_charOf_145
noncomputable def h0_X9_charOf_146 : zH 2 := (show zT 2 from (((25, 63, bg_7), (0, 66, bg_6)), ((0, 11, bg_13), (0, 0, 0))), (3, (0, 0)))
noncomputable def h1_X9_charOf_146 : zH 2 := (show zT 2 from (((25, 63, bg_7), (0, 66, bg_6)), ((0, 11, bg_13), (0, 0, 0))), (3, (0, 0)))
theorem ev_X9_charOf_146 : f_X9_charOf [zR 1, zI 343, zI 3, zI 0] h0_X9_charOf_146 (zrk (zI 0) h1_X9_charOf_146) = true := by decide +kernel
noncomputable def g_X9_charOf_146 {d : Nat} : List zV → zH d → zP d → Bool := zsmy [(0, 0), (1, 3), (1, 4)] [zR 1, zI 343, zI 3, zI 0] h0_X9_charOf_146 (zI 0) h1_X9_charOf_146
theorem mg_X9_charOf_146 {d : Nat} : zMet (d := d) X_X9_charOf yX9_charOf 9 g_X9_charOf_146 := zMet_sm m_X9_charOf ev_X9_charOf_146
noncomputable def h0_X9_charOf_147 : zH 2 := (show zT 2 from (((25, 63, bg_7), (0, 66, bg_6)), ((0, 11, bg_13), (0, 0, 0))), (3, (0, 0)))
noncomputable def h1_X9_charOf_147 : zH 2 := (show zT 2 from (((25, 63, bg_7), (0, 66, bg_6)), ((0, 11, bg_13), (0, 0, 0))), (3, (0, 0)))
theorem ev_X9_charOf_147 : f_X9_charOf [zR 1, zI 343, zI 4, zI 0] h0_X9_charOf_147 (zrk (zI 4294967294) h1_X9_charOf_147) = true := by decide +kernel
noncomputable def g_X9_charOf_147 {d : Nat} : List zV → zH d → zP d → Bool := zsmy [(0, 0), (1, 3), (1, 4)] [zR 1, zI 343, zI 4, zI 0] h0_X9_charOf_147 (zI 4294967294) h1_X9_charOf_147
theorem mg_X9_charOf_147 {d : Nat} : zMet (d := d) X_X9_charOf yX9_charOf 9 g_X9_charOf_147 := zMet_sm m_X9_charOf ev_X9_charOf_147
noncomputable def h0_X9_charOf_148 : zH 2 := (show zT 2 from (((25, 63, bg_7), (0, 66, bg_6)), ((0, 11, bg_13), (0, 0, 0))), (3, (0, 0)))
noncomputable def h1_X9_charOf_148 : zH 2 := (show zT 2 from (((25, 63, bg_7), (0, 66, bg_6)), ((0, 11, bg_13), (0, 0, 0))), (3, (0, 0)))
theorem ev_X9_charOf_148 : f_X9_charOf [zR 1, zI 343, zI 5, zI 0] h0_X9_charOf_148 (zrk (zI 0) h1_X9_charOf_148) = true := by decide +kernel
noncomputable def g_X9_charOf_148 {d : Nat} : List zV → zH d → zP d → Bool := zsmy [(0, 0), (1, 3), (1, 4)] [zR 1, zI 343, zI 5, zI 0] h0_X9_charOf_148 (zI 0) h1_X9_charOf_148
theorem mg_X9_charOf_148 {d : Nat} : zMet (d := d) X_X9_charOf yX9_charOf 9 g_X9_charOf_148 := zMet_sm m_X9_charOf ev_X9_charOf_148
noncomputable def h0_X9_charOf_149 : zH 2 := (show zT 2 from (((25, 63, bg_7), (0, 66, bg_6)), ((0, 11, bg_13), (0, 0, 0))), (3, (0, 0)))
noncomputable def h1_X9_charOf_149 : zH 2 := (show zT 2 from (((25, 63, bg_7), (0, 66, bg_6)), ((0, 11, bg_13), (0, 0, 0))), (3, (0, 0)))
theorem ev_X9_charOf_149 : f_X9_charOf [zR 1, zI 343, zI 6, zI 0] h0_X9_charOf_149 (zrk (zI 4294967294) h1_X9_charOf_149) = true := by decide +kernel
noncomputable def g_X9_charOf_149 {d : Nat} : List zV → zH d → zP d → Bool := zsmy [(0, 0), (1, 3), (1, 4)] [zR 1, zI 343, zI 6, zI 0] h0_X9_charOf_149 (zI 4294967294) h1_X9_charOf_149
theorem mg_X9_charOf_149 {d : Nat} : zMet (d := d) X_X9_charOf yX9_charOf 9 g_X9_charOf_149 := zMet_sm m_X9_charOf ev_X9_charOf_149
noncomputable def h0_X9_charOf_150 : zH 2 := (show zT 2 from (((25, 63, bg_7), (0, 66, bg_6)), ((0, 11, bg_13), (0, 0, 0))), (3, (0, 0)))
noncomputable def h1_X9_charOf_150 : zH 2 := (show zT 2 from (((25, 63, bg_7), (0, 66, bg_6)), ((0, 11, bg_13), (0, 0, 0))), (3, (0, 0)))
theorem ev_X9_charOf_150 : f_X9_charOf [zR 1, zI 343, zI 7, zI 0] h0_X9_charOf_150 (zrk (zI 0) h1_X9_charOf_150) = true := by decide +kernel
noncomputable def g_X9_charOf_150 {d : Nat} : List zV → zH d → zP d → Bool := zsmy [(0, 0), (1, 3), (1, 4)] [zR 1, zI 343, zI 7, zI 0] h0_X9_charOf_150 (zI 0) h1_X9_charOf_150
theorem mg_X9_charOf_150 {d : Nat} : zMet (d := d) X_X9_charOf yX9_charOf 9 g_X9_charOf_150 := zMet_sm m_X9_charOf ev_X9_charOf_150
noncomputable def h0_X9_charOf_151 : zH 2 := (show zT 2 from (((25, 63, bg_7), (0, 66, bg_6)), ((0, 11, bg_13), (0, 0, 0))), (3, (0, 0)))
noncomputable def h1_X9_charOf_151 : zH 2 := (show zT 2 from (((25, 63, bg_7), (0, 66, bg_6)), ((0, 11, bg_13), (0, 0, 0))), (3, (0, 0)))
theorem ev_X9_charOf_151 : f_X9_charOf [zR 1, zI 343, zI 8, zI 0] h0_X9_charOf_151 (zrk (zI 0) h1_X9_charOf_151) = true := by decide +kernel
noncomputable def g_X9_charOf_151 {d : Nat} : List zV → zH d → zP d → Bool := zsmy [(0, 0), (1, 3), (1, 4)] [zR 1, zI 343, zI 8, zI 0] h0_X9_charOf_151 (zI 0) h1_X9_charOf_151
theorem mg_X9_charOf_151 {d : Nat} : zMet (d := d) X_X9_charOf yX9_charOf 9 g_X9_charOf_151 := zMet_sm m_X9_charOf ev_X9_charOf_151
noncomputable def h0_X9_charOf_152 : zH 2 := (show zT 2 from (((25, 63, bg_7), (0, 66, bg_6)), ((0, 11, bg_13), (0, 0, 0))), (3, (0, 0)))
noncomputable def h1_X9_charOf_152 : zH 2 := (show zT 2 from (((25, 63, bg_7), (0, 66, bg_6)), ((0, 11, bg_13), (0, 0, 0))), (3, (0, 0)))
theorem ev_X9_charOf_152 : f_X9_charOf [zR 1, zI 343, zI 9, zI 0] h0_X9_charOf_152 (zrk (zI 0) h1_X9_charOf_152) = true := by decide +kernel
noncomputable def g_X9_charOf_152 {d : Nat} : List zV → zH d → zP d → Bool := zsmy [(0, 0), (1, 3), (1, 4)] [zR 1, zI 343, zI 9, zI 0] h0_X9_charOf_152 (zI 0) h1_X9_charOf_152
theorem mg_X9_charOf_152 {d : Nat} : zMet (d := d) X_X9_charOf yX9_charOf 9 g_X9_charOf_152 := zMet_sm m_X9_charOf ev_X9_charOf_152
noncomputable def h0_X9_charOf_153 : zH 2 := (show zT 2 from (((25, 63, bg_7), (0, 66, bg_6)), ((0, 11, bg_13), (0, 0, 0))), (3, (0, 0)))
noncomputable def h1_X9_charOf_153 : zH 2 := (show zT 2 from (((25, 63, bg_7), (0, 66, bg_6)), ((0, 11, bg_13), (0, 0, 0))), (3, (0, 0)))
theorem ev_X9_charOf_153 : f_X9_charOf [zR 1, zI 343, zI 10, zI 0] h0_X9_charOf_153 (zrk (zI 16) h1_X9_charOf_153) = true := by decide +kernel
noncomputable def g_X9_charOf_153 {d : Nat} : List zV → zH d → zP d → Bool := zsmy [(0, 0), (1, 3), (1, 4)] [zR 1, zI 343, zI 10, zI 0] h0_X9_charOf_153 (zI 16) h1_X9_charOf_153
theorem mg_X9_charOf_153 {d : Nat} : zMet (d := d) X_X9_charOf yX9_charOf 9 g_X9_charOf_153 := zMet_sm m_X9_charOf ev_X9_charOf_153
noncomputable def h0_X9_charOf_154 : zH 2 := (show zT 2 from (((25, 63, bg_7), (0, 66, bg_6)), ((0, 11, bg_13), (0, 0, 0))), (3, (0, 0)))
noncomputable def h1_X9_charOf_154 : zH 2 := (show zT 2 from (((25, 63, bg_7), (0, 66, bg_6)), ((0, 11, bg_13), (0, 0, 0))), (3, (0, 0)))
theorem ev_X9_charOf_154 : f_X9_charOf [zR 1, zI 315, zI 0, zI 0] h0_X9_charOf_154 (zrk (zI 4294967295) h1_X9_charOf_154) = true := by decide +kernel
noncomputable def g_X9_charOf_154 {d : Nat} : List zV → zH d → zP d → Bool := zsmy [(0, 0), (1, 3), (1, 4)] [zR 1, zI 315, zI 0, zI 0] h0_X9_charOf_154 (zI 4294967295) h1_X9_charOf_154
theorem mg_X9_charOf_154 {d : Nat} : zMet (d := d) X_X9_charOf yX9_charOf 9 g_X9_charOf_154 := zMet_sm m_X9_charOf ev_X9_charOf_154
noncomputable def h0_X9_charOf_155 : zH 2 := (show zT 2 from (((25, 63, bg_7), (0, 66, bg_6)), ((0, 11, bg_13), (0, 0, 0))), (3, (0, 0)))
noncomputable def h1_X9_charOf_155 : zH 2 := (show zT 2 from (((25, 63, bg_7), (0, 66, bg_6)), ((0, 11, bg_13), (0, 0, 0))), (3, (0, 0)))
theorem ev_X9_charOf_155 : f_X9_charOf [zR 1, zI 315, zI 1, zI 0] h0_X9_charOf_155 (zrk (zI 0) h1_X9_charOf_155) = true := by decide +kernel
noncomputable def g_X9_charOf_155 {d : Nat} : List zV → zH d → zP d → Bool := zsmy [(0, 0), (1, 3), (1, 4)] [zR 1, zI 315, zI 1, zI 0] h0_X9_charOf_155 (zI 0) h1_X9_charOf_155
theorem mg_X9_charOf_155 {d : Nat} : zMet (d := d) X_X9_charOf yX9_charOf 9 g_X9_charOf_155 := zMet_sm m_X9_charOf ev_X9_charOf_155
noncomputable def h0_X9_charOf_156 : zH 2 := (show zT 2 from (((25, 63, bg_7), (0, 66, bg_6)), ((0, 11, bg_13), (0, 0, 0))), (3, (0, 0)))
noncomputable def h1_X9_charOf_156 : zH 2 := (show zT 2 from (((25, 63, bg_7), (0, 66, bg_6)), ((0, 11, bg_13), (0, 0, 0))), (3, (0, 0)))
theorem ev_X9_charOf_156 : f_X9_charOf [zR 1, zI 315, zI 2, zI 0] h0_X9_charOf_156 (zrk (zI 0) h1_X9_charOf_156) = true := by decide +kernel
noncomputable def g_X9_charOf_156 {d : Nat} : List zV → zH d → zP d → Bool := zsmy [(0, 0), (1, 3), (1, 4)] [zR 1, zI 315, zI 2, zI 0] h0_X9_charOf_156 (zI 0) h1_X9_charOf_156
theorem mg_X9_charOf_156 {d : Nat} : zMet (d := d) X_X9_charOf yX9_charOf 9 g_X9_charOf_156 := zMet_sm m_X9_charOf ev_X9_charOf_156
noncomputable def h0_X9_charOf_157 : zH 2 := (show zT 2 from (((25, 63, bg_7), (0, 66, bg_6)), ((0, 11, bg_13), (0, 0, 0))), (3, (0, 0)))
noncomputable def h1_X9_charOf_157 : zH 2 := (show zT 2 from (((25, 63, bg_7), (0, 66, bg_6)), ((0, 11, bg_13), (0, 0, 0))), (3, (0, 0)))
theorem ev_X9_charOf_157 : f_X9_charOf [zR 1, zI 315, zI 3, zI 0] h0_X9_charOf_157 (zrk (zI 0) h1_X9_charOf_157) = true := by decide +kernel
noncomputable def g_X9_charOf_157 {d : Nat} : List zV → zH d → zP d → Bool := zsmy [(0, 0), (1, 3), (1, 4)] [zR 1, zI 315, zI 3, zI 0] h0_X9_charOf_157 (zI 0) h1_X9_charOf_157
theorem mg_X9_charOf_157 {d : Nat} : zMet (d := d) X_X9_charOf yX9_charOf 9 g_X9_charOf_157 := zMet_sm m_X9_charOf ev_X9_charOf_157
noncomputable def h0_X9_charOf_158 : zH 2 := (show zT 2 from (((25, 63, bg_7), (0, 66, bg_6)), ((0, 11, bg_13), (0, 0, 0))), (3, (0, 0)))
noncomputable def h1_X9_charOf_158 : zH 2 := (show zT 2 from (((25, 63, bg_7), (0, 66, bg_6)), ((0, 11, bg_13), (0, 0, 0))), (3, (0, 0)))
theorem ev_X9_charOf_158 : f_X9_charOf [zR 1, zI 315, zI 4, zI 0] h0_X9_charOf_158 (zrk (zI 1) h1_X9_charOf_158) = true := by decide +kernel
noncomputable def g_X9_charOf_158 {d : Nat} : List zV → zH d → zP d → Bool := zsmy [(0, 0), (1, 3), (1, 4)] [zR 1, zI 315, zI 4, zI 0] h0_X9_charOf_158 (zI 1) h1_X9_charOf_158
theorem mg_X9_charOf_158 {d : Nat} : zMet (d := d) X_X9_charOf yX9_charOf 9 g_X9_charOf_158 := zMet_sm m_X9_charOf ev_X9_charOf_158
noncomputable def h0_X9_charOf_159 : zH 2 := (show zT 2 from (((25, 63, bg_7), (0, 66, bg_6)), ((0, 11, bg_13), (0, 0, 0))), (3, (0, 0)))
noncomputable def h1_X9_charOf_159 : zH 2 := (show zT 2 from (((25, 63, bg_7), (0, 66, bg_6)), ((0, 11, bg_13), (0, 0, 0))), (3, (0, 0)))
theorem ev_X9_charOf_159 : f_X9_charOf [zR 1, zI 315, zI 5, zI 0] h0_X9_charOf_159 (zrk (zI 1) h1_X9_charOf_159) = true := by decide +kernel
noncomputable def g_X9_charOf_159 {d : Nat} : List zV → zH d → zP d → Bool := zsmy [(0, 0), (1, 3), (1, 4)] [zR 1, zI 315, zI 5, zI 0] h0_X9_charOf_159 (zI 1) h1_X9_charOf_159
theorem mg_X9_charOf_159 {d : Nat} : zMet (d := d) X_X9_charOf yX9_charOf 9 g_X9_charOf_159 := zMet_sm m_X9_charOf ev_X9_charOf_159
noncomputable def h0_X9_charOf_160 : zH 2 := (show zT 2 from (((25, 63, bg_7), (0, 66, bg_6)), ((0, 11, bg_13), (0, 0, 0))), (3, (0, 0)))
noncomputable def h1_X9_charOf_160 : zH 2 := (show zT 2 from (((25, 63, bg_7), (0, 66, bg_6)), ((0, 11, bg_13), (0, 0, 0))), (3, (0, 0)))
theorem ev_X9_charOf_160 : f_X9_charOf [zR 1, zI 315, zI 6, zI 0] h0_X9_charOf_160 (zrk (zI 1) h1_X9_charOf_160) = true := by decide +kernel
noncomputable def g_X9_charOf_160 {d : Nat} : List zV → zH d → zP d → Bool := zsmy [(0, 0), (1, 3), (1, 4)] [zR 1, zI 315, zI 6, zI 0] h0_X9_charOf_160 (zI 1) h1_X9_charOf_160
theorem mg_X9_charOf_160 {d : Nat} : zMet (d := d) X_X9_charOf yX9_charOf 9 g_X9_charOf_160 := zMet_sm m_X9_charOf ev_X9_charOf_160
noncomputable def h0_X9_charOf_161 : zH 2 := (show zT 2 from (((25, 63, bg_7), (0, 66, bg_6)), ((0, 11, bg_13), (0, 0, 0))), (3, (0, 0)))
noncomputable def h1_X9_charOf_161 : zH 2 := (show zT 2 from (((25, 63, bg_7), (0, 66, bg_6)), ((0, 11, bg_13), (0, 0, 0))), (3, (0, 0)))
theorem ev_X9_charOf_161 : f_X9_charOf [zR 1, zI 315, zI 7, zI 0] h0_X9_charOf_161 (zrk (zI 2) h1_X9_charOf_161) = true := by decide +kernel
noncomputable def g_X9_charOf_161 {d : Nat} : List zV → zH d → zP d → Bool := zsmy [(0, 0), (1, 3), (1, 4)] [zR 1, zI 315, zI 7, zI 0] h0_X9_charOf_161 (zI 2) h1_X9_charOf_161
theorem mg_X9_charOf_161 {d : Nat} : zMet (d := d) X_X9_charOf yX9_charOf 9 g_X9_charOf_161 := zMet_sm m_X9_charOf ev_X9_charOf_161
