/-! the reference by summaries, by program -/
noncomputable def h0_X9_charOf_162 : zH 2 := (show zT 2 from (((25, 63, bg_7), (0, 66, bg_6)), ((0, 11, bg_13), (0, 0, 0))), (3, (0, 0)))
noncomputable def h1_X9_charOf_162 : zH 2 := (show zT 2 from (((25, 63, bg_7), (0, 66, bg_6)), ((0, 11, bg_13), (0, 0, 0))), (3, (0, 0)))
theorem ev_X9_charOf_162 : f_X9_charOf [zR 1, zI 315, zI 8, zI 0] h0_X9_charOf_162 (zrk (zI 4294967294) h1_X9_charOf_162) = true := by decide +kernel
noncomputable def g_X9_charOf_162 {d : Nat} : List zV → zH d → zP d → Bool := zsmy [(0, 0), (1, 3), (1, 4)] [zR 1, zI 315, zI 8, zI 0] h0_X9_charOf_162 (zI 4294967294) h1_X9_charOf_162
theorem mg_X9_charOf_162 {d : Nat} : zMet (d := d) X_X9_charOf yX9_charOf 9 g_X9_charOf_162 := zMet_sm m_X9_charOf ev_X9_charOf_162
noncomputable def h0_X9_charOf_163 : zH 2 := (show zT 2 from (((25, 63, bg_7), (0, 66, bg_6)), ((0, 11, bg_13), (0, 0, 0))), (3, (0, 0)))
noncomputable def h1_X9_charOf_163 : zH 2 := (show zT 2 from (((25, 63, bg_7), (0, 66, bg_6)), ((0, 11, bg_13), (0, 0, 0))), (3, (0, 0)))
theorem ev_X9_charOf_163 : f_X9_charOf [zR 1, zI 315, zI 9, zI 0] h0_X9_charOf_163 (zrk (zI 4294967294) h1_X9_charOf_163) = true := by decide +kernel
noncomputable def g_X9_charOf_163 {d : Nat} : List zV → zH d → zP d → Bool := zsmy [(0, 0), (1, 3), (1, 4)] [zR 1, zI 315, zI 9, zI 0] h0_X9_charOf_163 (zI 4294967294) h1_X9_charOf_163
theorem mg_X9_charOf_163 {d : Nat} : zMet (d := d) X_X9_charOf yX9_charOf 9 g_X9_charOf_163 := zMet_sm m_X9_charOf ev_X9_charOf_163
noncomputable def h0_X9_charOf_164 : zH 2 := (show zT 2 from (((25, 63, bg_7), (0, 66, bg_6)), ((0, 11, bg_13), (0, 0, 0))), (3, (0, 0)))
noncomputable def h1_X9_charOf_164 : zH 2 := (show zT 2 from (((25, 63, bg_7), (0, 66, bg_6)), ((0, 11, bg_13), (0, 0, 0))), (3, (0, 0)))
theorem ev_X9_charOf_164 : f_X9_charOf [zR 1, zI 315, zI 10, zI 0] h0_X9_charOf_164 (zrk (zI 10) h1_X9_charOf_164) = true := by decide +kernel
noncomputable def g_X9_charOf_164 {d : Nat} : List zV → zH d → zP d → Bool := zsmy [(0, 0), (1, 3), (1, 4)] [zR 1, zI 315, zI 10, zI 0] h0_X9_charOf_164 (zI 10) h1_X9_charOf_164
theorem mg_X9_charOf_164 {d : Nat} : zMet (d := d) X_X9_charOf yX9_charOf 9 g_X9_charOf_164 := zMet_sm m_X9_charOf ev_X9_charOf_164
noncomputable def h0_X9_charOf_165 : zH 2 := (show zT 2 from (((25, 63, bg_7), (0, 66, bg_6)), ((0, 11, bg_13), (0, 0, 0))), (3, (0, 0)))
noncomputable def h1_X9_charOf_165 : zH 2 := (show zT 2 from (((25, 63, bg_7), (0, 66, bg_6)), ((0, 11, bg_13), (0, 0, 0))), (3, (0, 0)))
theorem ev_X9_charOf_165 : f_X9_charOf [zR 1, zI 231, zI 0, zI 0] h0_X9_charOf_165 (zrk (zI 0) h1_X9_charOf_165) = true := by decide +kernel
noncomputable def g_X9_charOf_165 {d : Nat} : List zV → zH d → zP d → Bool := zsmy [(0, 0), (1, 3), (1, 4)] [zR 1, zI 231, zI 0, zI 0] h0_X9_charOf_165 (zI 0) h1_X9_charOf_165
theorem mg_X9_charOf_165 {d : Nat} : zMet (d := d) X_X9_charOf yX9_charOf 9 g_X9_charOf_165 := zMet_sm m_X9_charOf ev_X9_charOf_165
noncomputable def h0_X9_charOf_166 : zH 2 := (show zT 2 from (((25, 63, bg_7), (0, 66, bg_6)), ((0, 11, bg_13), (0, 0, 0))), (3, (0, 0)))
noncomputable def h1_X9_charOf_166 : zH 2 := (show zT 2 from (((25, 63, bg_7), (0, 66, bg_6)), ((0, 11, bg_13), (0, 0, 0))), (3, (0, 0)))
theorem ev_X9_charOf_166 : f_X9_charOf [zR 1, zI 231, zI 1, zI 0] h0_X9_charOf_166 (zrk (zI 0) h1_X9_charOf_166) = true := by decide +kernel
noncomputable def g_X9_charOf_166 {d : Nat} : List zV → zH d → zP d → Bool := zsmy [(0, 0), (1, 3), (1, 4)] [zR 1, zI 231, zI 1, zI 0] h0_X9_charOf_166 (zI 0) h1_X9_charOf_166
theorem mg_X9_charOf_166 {d : Nat} : zMet (d := d) X_X9_charOf yX9_charOf 9 g_X9_charOf_166 := zMet_sm m_X9_charOf ev_X9_charOf_166
noncomputable def h0_X9_charOf_167 : zH 2 := (show zT 2 from (((25, 63, bg_7), (0, 66, bg_6)), ((0, 11, bg_13), (0, 0, 0))), (3, (0, 0)))
noncomputable def h1_X9_charOf_167 : zH 2 := (show zT 2 from (((25, 63, bg_7), (0, 66, bg_6)), ((0, 11, bg_13), (0, 0, 0))), (3, (0, 0)))
theorem ev_X9_charOf_167 : f_X9_charOf [zR 1, zI 231, zI 2, zI 0] h0_X9_charOf_167 (zrk (zI 4294967295) h1_X9_charOf_167) = true := by decide +kernel
noncomputable def g_X9_charOf_167 {d : Nat} : List zV → zH d → zP d → Bool := zsmy [(0, 0), (1, 3), (1, 4)] [zR 1, zI 231, zI 2, zI 0] h0_X9_charOf_167 (zI 4294967295) h1_X9_charOf_167
theorem mg_X9_charOf_167 {d : Nat} : zMet (d := d) X_X9_charOf yX9_charOf 9 g_X9_charOf_167 := zMet_sm m_X9_charOf ev_X9_charOf_167
noncomputable def h0_X9_charOf_168 : zH 2 := (show zT 2 from (((25, 63, bg_7), (0, 66, bg_6)), ((0, 11, bg_13), (0, 0, 0))), (3, (0, 0)))
noncomputable def h1_X9_charOf_168 : zH 2 := (show zT 2 from (((25, 63, bg_7), (0, 66, bg_6)), ((0, 11, bg_13), (0, 0, 0))), (3, (0, 0)))
theorem ev_X9_charOf_168 : f_X9_charOf [zR 1, zI 231, zI 3, zI 0] h0_X9_charOf_168 (zrk (zI 1) h1_X9_charOf_168) = true := by decide +kernel
noncomputable def g_X9_charOf_168 {d : Nat} : List zV → zH d → zP d → Bool := zsmy [(0, 0), (1, 3), (1, 4)] [zR 1, zI 231, zI 3, zI 0] h0_X9_charOf_168 (zI 1) h1_X9_charOf_168
theorem mg_X9_charOf_168 {d : Nat} : zMet (d := d) X_X9_charOf yX9_charOf 9 g_X9_charOf_168 := zMet_sm m_X9_charOf ev_X9_charOf_168
noncomputable def h0_X9_charOf_169 : zH 2 := (show zT 2 from (((25, 63, bg_7), (0, 66, bg_6)), ((0, 11, bg_13), (0, 0, 0))), (3, (0, 0)))
noncomputable def h1_X9_charOf_169 : zH 2 := (show zT 2 from (((25, 63, bg_7), (0, 66, bg_6)), ((0, 11, bg_13), (0, 0, 0))), (3, (0, 0)))
theorem ev_X9_charOf_169 : f_X9_charOf [zR 1, zI 231, zI 4, zI 0] h0_X9_charOf_169 (zrk (zI 2) h1_X9_charOf_169) = true := by decide +kernel
noncomputable def g_X9_charOf_169 {d : Nat} : List zV → zH d → zP d → Bool := zsmy [(0, 0), (1, 3), (1, 4)] [zR 1, zI 231, zI 4, zI 0] h0_X9_charOf_169 (zI 2) h1_X9_charOf_169
theorem mg_X9_charOf_169 {d : Nat} : zMet (d := d) X_X9_charOf yX9_charOf 9 g_X9_charOf_169 := zMet_sm m_X9_charOf ev_X9_charOf_169
noncomputable def h0_X9_charOf_170 : zH 2 := (show zT 2 from (((25, 63, bg_7), (0, 66, bg_6)), ((0, 11, bg_13), (0, 0, 0))), (3, (0, 0)))
noncomputable def h1_X9_charOf_170 : zH 2 := (show zT 2 from (((25, 63, bg_7), (0, 66, bg_6)), ((0, 11, bg_13), (0, 0, 0))), (3, (0, 0)))
theorem ev_X9_charOf_170 : f_X9_charOf [zR 1, zI 231, zI 5, zI 0] h0_X9_charOf_170 (zrk (zI 4294967295) h1_X9_charOf_170) = true := by decide +kernel
noncomputable def g_X9_charOf_170 {d : Nat} : List zV → zH d → zP d → Bool := zsmy [(0, 0), (1, 3), (1, 4)] [zR 1, zI 231, zI 5, zI 0] h0_X9_charOf_170 (zI 4294967295) h1_X9_charOf_170
theorem mg_X9_charOf_170 {d : Nat} : zMet (d := d) X_X9_charOf yX9_charOf 9 g_X9_charOf_170 := zMet_sm m_X9_charOf ev_X9_charOf_170
noncomputable def h0_X9_charOf_171 : zH 2 := (show zT 2 from (((25, 63, bg_7), (0, 66, bg_6)), ((0, 11, bg_13), (0, 0, 0))), (3, (0, 0)))
noncomputable def h1_X9_charOf_171 : zH 2 := (show zT 2 from (((25, 63, bg_7), (0, 66, bg_6)), ((0, 11, bg_13), (0, 0, 0))), (3, (0, 0)))
theorem ev_X9_charOf_171 : f_X9_charOf [zR 1, zI 231, zI 6, zI 0] h0_X9_charOf_171 (zrk (zI 4294967295) h1_X9_charOf_171) = true := by decide +kernel
noncomputable def g_X9_charOf_171 {d : Nat} : List zV → zH d → zP d → Bool := zsmy [(0, 0), (1, 3), (1, 4)] [zR 1, zI 231, zI 6, zI 0] h0_X9_charOf_171 (zI 4294967295) h1_X9_charOf_171
theorem mg_X9_charOf_171 {d : Nat} : zMet (d := d) X_X9_charOf yX9_charOf 9 g_X9_charOf_171 := zMet_sm m_X9_charOf ev_X9_charOf_171
noncomputable def h0_X9_charOf_172 : zH 2 := (show zT 2 from (((25, 63, bg_7), (0, 66, bg_6)), ((0, 11, bg_13), (0, 0, 0))), (3, (0, 0)))
noncomputable def h1_X9_charOf_172 : zH 2 := (show zT 2 from (((25, 63, bg_7), (0, 66, bg_6)), ((0, 11, bg_13), (0, 0, 0))), (3, (0, 0)))
theorem ev_X9_charOf_172 : f_X9_charOf [zR 1, zI 231, zI 7, zI 0] h0_X9_charOf_172 (zrk (zI 3) h1_X9_charOf_172) = true := by decide +kernel
noncomputable def g_X9_charOf_172 {d : Nat} : List zV → zH d → zP d → Bool := zsmy [(0, 0), (1, 3), (1, 4)] [zR 1, zI 231, zI 7, zI 0] h0_X9_charOf_172 (zI 3) h1_X9_charOf_172
theorem mg_X9_charOf_172 {d : Nat} : zMet (d := d) X_X9_charOf yX9_charOf 9 g_X9_charOf_172 := zMet_sm m_X9_charOf ev_X9_charOf_172
noncomputable def h0_X9_charOf_173 : zH 2 := (show zT 2 from (((25, 63, bg_7), (0, 66, bg_6)), ((0, 11, bg_13), (0, 0, 0))), (3, (0, 0)))
noncomputable def h1_X9_charOf_173 : zH 2 := (show zT 2 from (((25, 63, bg_7), (0, 66, bg_6)), ((0, 11, bg_13), (0, 0, 0))), (3, (0, 0)))
theorem ev_X9_charOf_173 : f_X9_charOf [zR 1, zI 231, zI 8, zI 0] h0_X9_charOf_173 (zrk (zI 1) h1_X9_charOf_173) = true := by decide +kernel
noncomputable def g_X9_charOf_173 {d : Nat} : List zV → zH d → zP d → Bool := zsmy [(0, 0), (1, 3), (1, 4)] [zR 1, zI 231, zI 8, zI 0] h0_X9_charOf_173 (zI 1) h1_X9_charOf_173
theorem mg_X9_charOf_173 {d : Nat} : zMet (d := d) X_X9_charOf yX9_charOf 9 g_X9_charOf_173 := zMet_sm m_X9_charOf ev_X9_charOf_173
noncomputable def h0_X9_charOf_174 : zH 2 := (show zT 2 from (((25, 63, bg_7), (0, 66, bg_6)), ((0, 11, bg_13), (0, 0, 0))), (3, (0, 0)))
noncomputable def h1_X9_charOf_174 : zH 2 := (show zT 2 from (((25, 63, bg_7), (0, 66, bg_6)), ((0, 11, bg_13), (0, 0, 0))), (3, (0, 0)))
theorem ev_X9_charOf_174 : f_X9_charOf [zR 1, zI 231, zI 9, zI 0] h0_X9_charOf_174 (zrk (zI 4294967295) h1_X9_charOf_174) = true := by decide +kernel
noncomputable def g_X9_charOf_174 {d : Nat} : List zV → zH d → zP d → Bool := zsmy [(0, 0), (1, 3), (1, 4)] [zR 1, zI 231, zI 9, zI 0] h0_X9_charOf_174 (zI 4294967295) h1_X9_charOf_174
theorem mg_X9_charOf_174 {d : Nat} : zMet (d := d) X_X9_charOf yX9_charOf 9 g_X9_charOf_174 := zMet_sm m_X9_charOf ev_X9_charOf_174
noncomputable def h0_X9_charOf_175 : zH 2 := (show zT 2 from (((25, 63, bg_7), (0, 66, bg_6)), ((0, 11, bg_13), (0, 0, 0))), (3, (0, 0)))
noncomputable def h1_X9_charOf_175 : zH 2 := (show zT 2 from (((25, 63, bg_7), (0, 66, bg_6)), ((0, 11, bg_13), (0, 0, 0))), (3, (0, 0)))
theorem ev_X9_charOf_175 : f_X9_charOf [zR 1, zI 231, zI 10, zI 0] h0_X9_charOf_175 (zrk (zI 5) h1_X9_charOf_175) = true := by decide +kernel
noncomputable def g_X9_charOf_175 {d : Nat} : List zV → zH d → zP d → Bool := zsmy [(0, 0), (1, 3), (1, 4)] [zR 1, zI 231, zI 10, zI 0] h0_X9_charOf_175 (zI 5) h1_X9_charOf_175
theorem mg_X9_charOf_175 {d : Nat} : zMet (d := d) X_X9_charOf yX9_charOf 9 g_X9_charOf_175 := zMet_sm m_X9_charOf ev_X9_charOf_175
noncomputable def h0_X9_charOf_176 : zH 2 := (show zT 2 from (((25, 63, bg_7), (0, 66, bg_6)), ((0, 11, bg_13), (0, 0, 0))), (3, (0, 0)))
noncomputable def h1_X9_charOf_176 : zH 2 := (show zT 2 from (((25, 63, bg_7), (0, 66, bg_6)), ((0, 11, bg_13), (0, 0, 0))), (3, (0, 0)))
theorem ev_X9_charOf_176 : f_X9_charOf [zR 1, zI 219, zI 0, zI 0] h0_X9_charOf_176 (zrk (zI 0) h1_X9_charOf_176) = true := by decide +kernel
noncomputable def g_X9_charOf_176 {d : Nat} : List zV → zH d → zP d → Bool := zsmy [(0, 0), (1, 3), (1, 4)] [zR 1, zI 219, zI 0, zI 0] h0_X9_charOf_176 (zI 0) h1_X9_charOf_176
theorem mg_X9_charOf_176 {d : Nat} : zMet (d := d) X_X9_charOf yX9_charOf 9 g_X9_charOf_176 := zMet_sm m_X9_charOf ev_X9_charOf_176
noncomputable def h0_X9_charOf_177 : zH 2 := (show zT 2 from (((25, 63, bg_7), (0, 66, bg_6)), ((0, 11, bg_13), (0, 0, 0))), (3, (0, 0)))
noncomputable def h1_X9_charOf_177 : zH 2 := (show zT 2 from (((25, 63, bg_7), (0, 66, bg_6)), ((0, 11, bg_13), (0, 0, 0))), (3, (0, 0)))
theorem ev_X9_charOf_177 : f_X9_charOf [zR 1, zI 219, zI 1, zI 0] h0_X9_charOf_177 (zrk (zI 4294967295) h1_X9_charOf_177) = true := by decide +kernel
noncomputable def g_X9_charOf_177 {d : Nat} : List zV → zH d → zP d → Bool := zsmy [(0, 0), (1, 3), (1, 4)] [zR 1, zI 219, zI 1, zI 0] h0_X9_charOf_177 (zI 4294967295) h1_X9_charOf_177
theorem mg_X9_charOf_177 {d : Nat} : zMet (d := d) X_X9_charOf yX9_charOf 9 g_X9_charOf_177 := zMet_sm m_X9_charOf ev_X9_charOf_177
noncomputable def h0_X9_charOf_178 : zH 2 := (show zT 2 from (((25, 63, bg_7), (0, 66, bg_6)), ((0, 11, bg_13), (0, 0, 0))), (3, (0, 0)))
noncomputable def h1_X9_charOf_178 : zH 2 := (show zT 2 from (((25, 63, bg_7), (0, 66, bg_6)), ((0, 11, bg_13), (0, 0, 0))), (3, (0, 0)))
theorem ev_X9_charOf_178 : f_X9_charOf [zR 1, zI 219, zI 2, zI 0] h0_X9_charOf_178 (zrk (zI 1) h1_X9_charOf_178) = true := by decide +kernel
noncomputable def g_X9_charOf_178 {d : Nat} : List zV → zH d → zP d → Bool := zsmy [(0, 0), (1, 3), (1, 4)] [zR 1, zI 219, zI 2, zI 0] h0_X9_charOf_178 (zI 1) h1_X9_charOf_178
theorem mg_X9_charOf_178 {d : Nat} : zMet (d := d) X_X9_charOf yX9_charOf 9 g_X9_charOf_178 := zMet_sm m_X9_charOf ev_X9_charOf_178
noncomputable def h0_X9_charOf_179 : zH 2 := (show zT 2 from (((25, 63, bg_7), (0, 66, bg_6)), ((0, 11, bg_13), (0, 0, 0))), (3, (0, 0)))
noncomputable def h1_X9_charOf_179 : zH 2 := (show zT 2 from (((25, 63, bg_7), (0, 66, bg_6)), ((0, 11, bg_13), (0, 0, 0))), (3, (0, 0)))
theorem ev_X9_charOf_179 : f_X9_charOf [zR 1, zI 219, zI 3, zI 0] h0_X9_charOf_179 (zrk (zI 1) h1_X9_charOf_179) = true := by decide +kernel
noncomputable def g_X9_charOf_179 {d : Nat} : List zV → zH d → zP d → Bool := zsmy [(0, 0), (1, 3), (1, 4)] [zR 1, zI 219, zI 3, zI 0] h0_X9_charOf_179 (zI 1) h1_X9_charOf_179
theorem mg_X9_charOf_179 {d : Nat} : zMet (d := d) X_X9_charOf yX9_charOf 9 g_X9_charOf_179 := zMet_sm m_X9_charOf ev_X9_charOf_179
noncomputable def h0_X9_charOf_180 : zH 2 := (show zT 2 from (((25, 63, bg_7), (0, 66, bg_6)), ((0, 11, bg_13), (0, 0, 0))), (3, (0, 0)))
noncomputable def h1_X9_charOf_180 : zH 2 := (show zT 2 from (((25, 63, bg_7), (0, 66, bg_6)), ((0, 11, bg_13), (0, 0, 0))), (3, (0, 0)))
theorem ev_X9_charOf_180 : f_X9_charOf [zR 1, zI 219, zI 4, zI 0] h0_X9_charOf_180 (zrk (zI 0) h1_X9_charOf_180) = true := by decide +kernel
noncomputable def g_X9_charOf_180 {d : Nat} : List zV → zH d → zP d → Bool := zsmy [(0, 0), (1, 3), (1, 4)] [zR 1, zI 219, zI 4, zI 0] h0_X9_charOf_180 (zI 0) h1_X9_charOf_180
theorem mg_X9_charOf_180 {d : Nat} : zMet (d := d) X_X9_charOf yX9_charOf 9 g_X9_charOf_180 := zMet_sm m_X9_charOf ev_X9_charOf_180
noncomputable def h0_X9_charOf_181 : zH 2 := (show zT 2 from (((25, 63, bg_7), (0, 66, bg_6)), ((0, 11, bg_13), (0, 0, 0))), (3, (0, 0)))
noncomputable def h1_X9_charOf_181 : zH 2 := (show zT 2 from (((25, 63, bg_7), (0, 66, bg_6)), ((0, 11, bg_13), (0, 0, 0))), (3, (0, 0)))
theorem ev_X9_charOf_181 : f_X9_charOf [zR 1, zI 219, zI 5, zI 0] h0_X9_charOf_181 (zrk (zI 0) h1_X9_charOf_181) = true := by decide +kernel
noncomputable def g_X9_charOf_181 {d : Nat} : List zV → zH d → zP d → Bool := zsmy [(0, 0), (1, 3), (1, 4)] [zR 1, zI 219, zI 5, zI 0] h0_X9_charOf_181 (zI 0) h1_X9_charOf_181
theorem mg_X9_charOf_181 {d : Nat} : zMet (d := d) X_X9_charOf yX9_charOf 9 g_X9_charOf_181 := zMet_sm m_X9_charOf ev_X9_charOf_181
noncomputable def h0_X9_charOf_182 : zH 2 := (show zT 2 from (((25, 63, bg_7), (0, 66, bg_6)), ((0, 11, bg_13), (0, 0, 0))), (3, (0, 0)))
noncomputable def h1_X9_charOf_182 : zH 2 := (show zT 2 from (((25, 63, bg_7), (0, 66, bg_6)), ((0, 11, bg_13), (0, 0, 0))), (3, (0, 0)))
theorem ev_X9_charOf_182 : f_X9_charOf [zR 1, zI 219, zI 6, zI 0] h0_X9_charOf_182 (zrk (zI 0) h1_X9_charOf_182) = true := by decide +kernel
noncomputable def g_X9_charOf_182 {d : Nat} : List zV → zH d → zP d → Bool := zsmy [(0, 0), (1, 3), (1, 4)] [zR 1, zI 219, zI 6, zI 0] h0_X9_charOf_182 (zI 0) h1_X9_charOf_182
theorem mg_X9_charOf_182 {d : Nat} : zMet (d := d) X_X9_charOf yX9_charOf 9 g_X9_charOf_182 := zMet_sm m_X9_charOf ev_X9_charOf_182
noncomputable def h0_X9_charOf_183 : zH 2 := (show zT 2 from (((25, 63, bg_7), (0, 66, bg_6)), ((0, 11, bg_13), (0, 0, 0))), (3, (0, 0)))
noncomputable def h1_X9_charOf_183 : zH 2 := (show zT 2 from (((25, 63, bg_7), (0, 66, bg_6)), ((0, 11, bg_13), (0, 0, 0))), (3, (0, 0)))
theorem ev_X9_charOf_183 : f_X9_charOf [zR 1, zI 219, zI 7, zI 0] h0_X9_charOf_183 (zrk (zI 4294967293) h1_X9_charOf_183) = true := by decide +kernel
noncomputable def g_X9_charOf_183 {d : Nat} : List zV → zH d → zP d → Bool := zsmy [(0, 0), (1, 3), (1, 4)] [zR 1, zI 219, zI 7, zI 0] h0_X9_charOf_183 (zI 4294967293) h1_X9_charOf_183
theorem mg_X9_charOf_183 {d : Nat} : zMet (d := d) X_X9_charOf yX9_charOf 9 g_X9_charOf_183 := zMet_sm m_X9_charOf ev_X9_charOf_183
noncomputable def h0_X9_charOf_184 : zH 2 := (show zT 2 from (((25, 63, bg_7), (0, 66, bg_6)), ((0, 11, bg_13), (0, 0, 0))), (3, (0, 0)))
noncomputable def h1_X9_charOf_184 : zH 2 := (show zT 2 from (((25, 63, bg_7), (0, 66, bg_6)), ((0, 11, bg_13), (0, 0, 0))), (3, (0, 0)))
theorem ev_X9_charOf_184 : f_X9_charOf [zR 1, zI 219, zI 8, zI 0] h0_X9_charOf_184 (zrk (zI 1) h1_X9_charOf_184) = true := by decide +kernel
noncomputable def g_X9_charOf_184 {d : Nat} : List zV → zH d → zP d → Bool := zsmy [(0, 0), (1, 3), (1, 4)] [zR 1, zI 219, zI 8, zI 0] h0_X9_charOf_184 (zI 1) h1_X9_charOf_184
theorem mg_X9_charOf_184 {d : Nat} : zMet (d := d) X_X9_charOf yX9_charOf 9 g_X9_charOf_184 := zMet_sm m_X9_charOf ev_X9_charOf_184
noncomputable def h0_X9_charOf_185 : zH 2 := (show zT 2 from (((25, 63, bg_7), (0, 66, bg_6)), ((0, 11, bg_13), (0, 0, 0))), (3, (0, 0)))
noncomputable def h1_X9_charOf_185 : zH 2 := (show zT 2 from (((25, 63, bg_7), (0, 66, bg_6)), ((0, 11, bg_13), (0, 0, 0))), (3, (0, 0)))
theorem ev_X9_charOf_185 : f_X9_charOf [zR 1, zI 219, zI 9, zI 0] h0_X9_charOf_185 (zrk (zI 4294967293) h1_X9_charOf_185) = true := by decide +kernel
noncomputable def g_X9_charOf_185 {d : Nat} : List zV → zH d → zP d → Bool := zsmy [(0, 0), (1, 3), (1, 4)] [zR 1, zI 219, zI 9, zI 0] h0_X9_charOf_185 (zI 4294967293) h1_X9_charOf_185
theorem mg_X9_charOf_185 {d : Nat} : zMet (d := d) X_X9_charOf yX9_charOf 9 g_X9_charOf_185 := zMet_sm m_X9_charOf ev_X9_charOf_185
noncomputable def h0_X9_charOf_186 : zH 2 := (show zT 2 from (((25, 63, bg_7), (0, 66, bg_6)), ((0, 11, bg_13), (0, 0, 0))), (3, (0, 0)))
noncomputable def h1_X9_charOf_186 : zH 2 := (show zT 2 from (((25, 63, bg_7), (0, 66, bg_6)), ((0, 11, bg_13), (0, 0, 0))), (3, (0, 0)))
theorem ev_X9_charOf_186 : f_X9_charOf [zR 1, zI 219, zI 10, zI 0] h0_X9_charOf_186 (zrk (zI 9) h1_X9_charOf_186) = true := by decide +kernel
noncomputable def g_X9_charOf_186 {d : Nat} : List zV → zH d → zP d → Bool := zsmy [(0, 0), (1, 3), (1, 4)] [zR 1, zI 219, zI 10, zI 0] h0_X9_charOf_186 (zI 9) h1_X9_charOf_186
theorem mg_X9_charOf_186 {d : Nat} : zMet (d := d) X_X9_charOf yX9_charOf 9 g_X9_charOf_186 := zMet_sm m_X9_charOf ev_X9_charOf_186
noncomputable def h0_X9_charOf_187 : zH 2 := (show zT 2 from (((25, 63, bg_7), (0, 66, bg_6)), ((0, 11, bg_13), (0, 0, 0))), (3, (0, 0)))
noncomputable def h1_X9_charOf_187 : zH 2 := (show zT 2 from (((25, 63, bg_7), (0, 66, bg_6)), ((0, 11, bg_13), (0, 0, 0))), (3, (0, 0)))
theorem ev_X9_charOf_187 : f_X9_charOf [zR 1, zI 189, zI 0, zI 0] h0_X9_charOf_187 (zrk (zI 1) h1_X9_charOf_187) = true := by decide +kernel
noncomputable def g_X9_charOf_187 {d : Nat} : List zV → zH d → zP d → Bool := zsmy [(0, 0), (1, 3), (1, 4)] [zR 1, zI 189, zI 0, zI 0] h0_X9_charOf_187 (zI 1) h1_X9_charOf_187
theorem mg_X9_charOf_187 {d : Nat} : zMet (d := d) X_X9_charOf yX9_charOf 9 g_X9_charOf_187 := zMet_sm m_X9_charOf ev_X9_charOf_187
noncomputable def h0_X9_charOf_188 : zH 2 := (show zT 2 from (((25, 63, bg_7), (0, 66, bg_6)), ((0, 11, bg_13), (0, 0, 0))), (3, (0, 0)))
noncomputable def h1_X9_charOf_188 : zH 2 := (show zT 2 from (((25, 63, bg_7), (0, 66, bg_6)), ((0, 11, bg_13), (0, 0, 0))), (3, (0, 0)))
theorem ev_X9_charOf_188 : f_X9_charOf [zR 1, zI 189, zI 1, zI 0] h0_X9_charOf_188 (zrk (zI 0) h1_X9_charOf_188) = true := by decide +kernel
noncomputable def g_X9_charOf_188 {d : Nat} : List zV → zH d → zP d → Bool := zsmy [(0, 0), (1, 3), (1, 4)] [zR 1, zI 189, zI 1, zI 0] h0_X9_charOf_188 (zI 0) h1_X9_charOf_188
theorem mg_X9_charOf_188 {d : Nat} : zMet (d := d) X_X9_charOf yX9_charOf 9 g_X9_charOf_188 := zMet_sm m_X9_charOf ev_X9_charOf_188
noncomputable def h0_X9_charOf_189 : zH 2 := (show zT 2 from (((25, 63, bg_7), (0, 66, bg_6)), ((0, 11, bg_13), (0, 0, 0))), (3, (0, 0)))
noncomputable def h1_X9_charOf_189 : zH 2 := (show zT 2 from (((25, 63, bg_7), (0, 66, bg_6)), ((0, 11, bg_13), (0, 0, 0))), (3, (0, 0)))
theorem ev_X9_charOf_189 : f_X9_charOf [zR 1, zI 189, zI 2, zI 0] h0_X9_charOf_189 (zrk (zI 4294967295) h1_X9_charOf_189) = true := by decide +kernel
noncomputable def g_X9_charOf_189 {d : Nat} : List zV → zH d → zP d → Bool := zsmy [(0, 0), (1, 3), (1, 4)] [zR 1, zI 189, zI 2, zI 0] h0_X9_charOf_189 (zI 4294967295) h1_X9_charOf_189
theorem mg_X9_charOf_189 {d : Nat} : zMet (d := d) X_X9_charOf yX9_charOf 9 g_X9_charOf_189 := zMet_sm m_X9_charOf ev_X9_charOf_189
noncomputable def h0_X9_charOf_190 : zH 2 := (show zT 2 from (((25, 63, bg_7), (0, 66, bg_6)), ((0, 11, bg_13), (0, 0, 0))), (3, (0, 0)))
noncomputable def h1_X9_charOf_190 : zH 2 := (show zT 2 from (((25, 63, bg_7), (0, 66, bg_6)), ((0, 11, bg_13), (0, 0, 0))), (3, (0, 0)))
theorem ev_X9_charOf_190 : f_X9_charOf [zR 1, zI 189, zI 3, zI 0] h0_X9_charOf_190 (zrk (zI 4294967295) h1_X9_charOf_190) = true := by decide +kernel
noncomputable def g_X9_charOf_190 {d : Nat} : List zV → zH d → zP d → Bool := zsmy [(0, 0), (1, 3), (1, 4)] [zR 1, zI 189, zI 3, zI 0] h0_X9_charOf_190 (zI 4294967295) h1_X9_charOf_190
theorem mg_X9_charOf_190 {d : Nat} : zMet (d := d) X_X9_charOf yX9_charOf 9 g_X9_charOf_190 := zMet_sm m_X9_charOf ev_X9_charOf_190
noncomputable def h0_X9_charOf_191 : zH 2 := (show zT 2 from (((25, 63, bg_7), (0, 66, bg_6)), ((0, 11, bg_13), (0, 0, 0))), (3, (0, 0)))
noncomputable def h1_X9_charOf_191 : zH 2 := (show zT 2 from (((25, 63, bg_7), (0, 66, bg_6)), ((0, 11, bg_13), (0, 0, 0))), (3, (0, 0)))
theorem ev_X9_charOf_191 : f_X9_charOf [zR 1, zI 189, zI 4, zI 0] h0_X9_charOf_191 (zrk (zI 4294967295) h1_X9_charOf_191) = true := by decide +kernel
noncomputable def g_X9_charOf_191 {d : Nat} : List zV → zH d → zP d → Bool := zsmy [(0, 0), (1, 3), (1, 4)] [zR 1, zI 189, zI 4, zI 0] h0_X9_charOf_191 (zI 4294967295) h1_X9_charOf_191
theorem mg_X9_charOf_191 {d : Nat} : zMet (d := d) X_X9_charOf yX9_charOf 9 g_X9_charOf_191 := zMet_sm m_X9_charOf ev_X9_charOf_191
noncomputable def h0_X9_charOf_192 : zH 2 := (show zT 2 from (((25, 63, bg_7), (0, 66, bg_6)), ((0, 11, bg_13), (0, 0, 0))), (3, (0, 0)))
noncomputable def h1_X9_charOf_192 : zH 2 := (show zT 2 from (((25, 63, bg_7), (0, 66, bg_6)), ((0, 11, bg_13), (0, 0, 0))), (3, (0, 0)))
theorem ev_X9_charOf_192 : f_X9_charOf [zR 1, zI 189, zI 5, zI 0] h0_X9_charOf_192 (zrk (zI 0) h1_X9_charOf_192) = true := by decide +kernel
noncomputable def g_X9_charOf_192 {d : Nat} : List zV → zH d → zP d → Bool := zsmy [(0, 0), (1, 3), (1, 4)] [zR 1, zI 189, zI 5, zI 0] h0_X9_charOf_192 (zI 0) h1_X9_charOf_192
theorem mg_X9_charOf_192 {d : Nat} : zMet (d := d) X_X9_charOf yX9_charOf 9 g_X9_charOf_192 := zMet_sm m_X9_charOf ev_X9_charOf_192
noncomputable def h0_X9_charOf_193 : zH 2 := (show zT 2 from (((25, 63, bg_7), (0, 66, bg_6)), ((0, 11, bg_13), (0, 0, 0))), (3, (0, 0)))
noncomputable def h1_X9_charOf_193 : zH 2 := (show zT 2 from (((25, 63, bg_7), (0, 66, bg_6)), ((0, 11, bg_13), (0, 0, 0))), (3, (0, 0)))
theorem ev_X9_charOf_193 : f_X9_charOf [zR 1, zI 189, zI 6, zI 0] h0_X9_charOf_193 (zrk (zI 2) h1_X9_charOf_193) = true := by decide +kernel
noncomputable def g_X9_charOf_193 {d : Nat} : List zV → zH d → zP d → Bool := zsmy [(0, 0), (1, 3), (1, 4)] [zR 1, zI 189, zI 6, zI 0] h0_X9_charOf_193 (zI 2) h1_X9_charOf_193
theorem mg_X9_charOf_193 {d : Nat} : zMet (d := d) X_X9_charOf yX9_charOf 9 g_X9_charOf_193 := zMet_sm m_X9_charOf ev_X9_charOf_193
noncomputable def h0_X9_charOf_194 : zH 2 := (show zT 2 from (((25, 63, bg_7), (0, 66, bg_6)), ((0, 11, bg_13), (0, 0, 0))), (3, (0, 0)))
noncomputable def h1_X9_charOf_194 : zH 2 := (show zT 2 from (((25, 63, bg_7), (0, 66, bg_6)), ((0, 11, bg_13), (0, 0, 0))), (3, (0, 0)))
theorem ev_X9_charOf_194 : f_X9_charOf [zR 1, zI 189, zI 7, zI 0] h0_X9_charOf_194 (zrk (zI 1) h1_X9_charOf_194) = true := by decide +kernel
noncomputable def g_X9_charOf_194 {d : Nat} : List zV → zH d → zP d → Bool := zsmy [(0, 0), (1, 3), (1, 4)] [zR 1, zI 189, zI 7, zI 0] h0_X9_charOf_194 (zI 1) h1_X9_charOf_194
theorem mg_X9_charOf_194 {d : Nat} : zMet (d := d) X_X9_charOf yX9_charOf 9 g_X9_charOf_194 := zMet_sm m_X9_charOf ev_X9_charOf_194
noncomputable def h0_X9_charOf_195 : zH 2 := (show zT 2 from (((25, 63, bg_7), (0, 66, bg_6)), ((0, 11, bg_13), (0, 0, 0))), (3, (0, 0)))
noncomputable def h1_X9_charOf_195 : zH 2 := (show zT 2 from (((25, 63, bg_7), (0, 66, bg_6)), ((0, 11, bg_13), (0, 0, 0))), (3, (0, 0)))
theorem ev_X9_charOf_195 : f_X9_charOf [zR 1, zI 189, zI 8, zI 0] h0_X9_charOf_195 (zrk (zI 1) h1_X9_charOf_195) = true := by decide +kernel
noncomputable def g_X9_charOf_195 {d : Nat} : List zV → zH d → zP d → Bool := zsmy [(0, 0), (1, 3), (1, 4)] [zR 1, zI 189, zI 8, zI 0] h0_X9_charOf_195 (zI 1) h1_X9_charOf_195
theorem mg_X9_charOf_195 {d : Nat} : zMet (d := d) X_X9_charOf yX9_charOf 9 g_X9_charOf_195 := zMet_sm m_X9_charOf ev_X9_charOf_195
noncomputable def h0_X9_charOf_196 : zH 2 := (show zT 2 from (((25, 63, bg_7), (0, 66, bg_6)), ((0, 11, bg_13), (0, 0, 0))), (3, (0, 0)))
noncomputable def h1_X9_charOf_196 : zH 2 := (show zT 2 from (((25, 63, bg_7), (0, 66, bg_6)), ((0, 11, bg_13), (0, 0, 0))), (3, (0, 0)))
theorem ev_X9_charOf_196 : f_X9_charOf [zR 1, zI 189, zI 9, zI 0] h0_X9_charOf_196 (zrk (zI 4294967293) h1_X9_charOf_196) = true := by decide +kernel
noncomputable def g_X9_charOf_196 {d : Nat} : List zV → zH d → zP d → Bool := zsmy [(0, 0), (1, 3), (1, 4)] [zR 1, zI 189, zI 9, zI 0] h0_X9_charOf_196 (zI 4294967293) h1_X9_charOf_196
theorem mg_X9_charOf_196 {d : Nat} : zMet (d := d) X_X9_charOf yX9_charOf 9 g_X9_charOf_196 := zMet_sm m_X9_charOf ev_X9_charOf_196
