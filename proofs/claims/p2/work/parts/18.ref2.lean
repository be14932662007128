/-! the reference, by program -/
abbrev X_X9_charOf : zM := (RX9, cX9_charOf, 9, (some .int), "charOf")
noncomputable def bX9_charOf_128 {d : Nat} (self : List zV → zH d → zP d → Bool) (P : zP d) (r27 : zK d) : zK d := (xinc 6 1 r27)
set_option maxRecDepth 100000 in
set_option maxHeartbeats 4000000 in
theorem sbX9_charOf_128 {d : Nat} [zGh] (n : Nat) (self : List zV → zH d → zP d → Bool) (hself : zMet X_X9_charOf yX9_charOf (1 + n) self) (P : zP d) (r27 : zK d) (hr27 : zSim X_X9_charOf (1 + (n + 1)) P 27 r27) : zSim X_X9_charOf (1 + (n + 1)) P 128 (bX9_charOf_128 self P r27) := by
  unfold bX9_charOf_128
  refine sm_iinc (pc := 128) (n := 6) dX9_charOf_128 zc_i_1 ?_
  refine sm_goto (pc := 131) (tgt := 27) dX9_charOf_131 (by decide) ?_
  exact hr27
noncomputable def bX9_charOf_125 {d : Nat} (self : List zV → zH d → zP d → Bool) (P : zP d) (j128 : zK d) : zK d := (xbin zadd (xist 5 j128))
set_option maxRecDepth 100000 in
set_option maxHeartbeats 4000000 in
theorem sbX9_charOf_125 {d : Nat} [zGh] (n : Nat) (self : List zV → zH d → zP d → Bool) (hself : zMet X_X9_charOf yX9_charOf (1 + n) self) (P : zP d) (j128 : zK d) (hj128 : zSim X_X9_charOf (1 + (n + 1)) P 128 j128) : zSim X_X9_charOf (1 + (n + 1)) P 125 (bX9_charOf_125 self P j128) := by
  unfold bX9_charOf_125
  refine sm_iadd (pc := 125) dX9_charOf_125 ?_
  refine sm_istore (pc := 126) (n := 5) dX9_charOf_126 ?_
  exact hj128
noncomputable def cX9_charOf_96 {d : Nat} (self : List zV → zH d → zP d → Bool) (P : zP d) (j128 : zK d) : zK d := (xild 2 (xild 3 (xpI 1 (xbin zadd (xcV 25 4 0 0 self (xist 8 (xild 5 (xild 7 (xcS 1 0 0 f_X9_bits (xpI 2 (xbinN zrem (xjoin (bX9_charOf_125 self P j128) (fun j125 => (xif0 t0eq (xild 8 j125) (xild 8 (xun zneg j125))))))))))))))))
set_option maxRecDepth 100000 in
set_option maxHeartbeats 4000000 in
theorem scX9_charOf_96 {d : Nat} [zGh] (n : Nat) (self : List zV → zH d → zP d → Bool) (hself : zMet X_X9_charOf yX9_charOf (1 + n) self) (P : zP d) (j128 : zK d) (hj128 : zSim X_X9_charOf (1 + (n + 1)) P 128 j128) : zSim X_X9_charOf (1 + (n + 1)) P 96 (cX9_charOf_96 self P j128) := by
  unfold cX9_charOf_96
  refine sm_iload_n (pc := 96) (n := 2) dX9_charOf_96 rfl ?_
  refine sm_iload_n (pc := 97) (n := 3) dX9_charOf_97 rfl ?_
  refine sm_iconst (pc := 98) dX9_charOf_98 zc_i_1 ?_
  refine sm_iadd (pc := 99) dX9_charOf_99 ?_
  refine sm_cV (pc := 100) (ci := 9) (n := 4) (mc := 0) (ms := 0) rfl hself (cr_X9_191 (X := X_X9_charOf) (fr := 1 + (n + 1)) (frc := 1 + n) (pc := 100) (mc := 0) (ms := 0) rfl (by omega) dX9_charOf_100) ?_
  refine sm_istore (pc := 103) (n := 8) dX9_charOf_103 ?_
  refine sm_iload (pc := 105) (n := 5) dX9_charOf_105 ?_
  refine sm_iload (pc := 107) (n := 7) dX9_charOf_107 ?_
  refine sm_cS (pc := 109) (n := 1) (mc := 0) (ms := 0) m_X9_bits (cr_X9_195 (X := X_X9_charOf) (fr := 1 + (n + 1)) (frc := 1) (pc := 109) (mc := 0) (ms := 0) rfl (by omega) dX9_charOf_109) ?_
  refine sm_iconst (pc := 112) dX9_charOf_112 zc_i_2 ?_
  refine sm_irem (pc := 113) dX9_charOf_113 ?_
  refine sm_join (pc := 114) (pc' := 125) (sbX9_charOf_125 n self hself P j128 hj128) (fun j125 hj125 => ?_)
  refine sm_if_ne (pc := 114) (tgt := 122) dX9_charOf_114 (by decide) ?_ ?_
  · skip
    refine sm_iload (pc := 122) (n := 8) dX9_charOf_122 ?_
    refine sm_ineg (pc := 124) dX9_charOf_124 ?_
    exact hj125
  · skip
    refine sm_iload (pc := 117) (n := 8) dX9_charOf_117 ?_
    refine sm_goto (pc := 119) (tgt := 125) dX9_charOf_119 (by decide) ?_
    exact hj125
noncomputable def cX9_charOf_67 {d : Nat} (self : List zV → zH d → zP d → Bool) (P : zP d) (j128 : zK d) : zK d := (xbin zshr (xpI 1 (xild 4 (xpI 1 (xbin zsub (xbin zshl (xpI 1 (xbin zsub (xbin zand (xist 7 (xald 0 (xild 1 (xpI 1 (xild 6 (xbin zshl (xpI 4294967295 (xbin zxor (xbin zand (xpI 1 (xild 6 (xild 4 (xbin zsub (xbin zshl (xbin zor (cX9_charOf_96 self P j128)))))))))))))))))))))))))
set_option maxRecDepth 100000 in
set_option maxHeartbeats 4000000 in
theorem scX9_charOf_67 {d : Nat} [zGh] (n : Nat) (self : List zV → zH d → zP d → Bool) (hself : zMet X_X9_charOf yX9_charOf (1 + n) self) (P : zP d) (j128 : zK d) (hj128 : zSim X_X9_charOf (1 + (n + 1)) P 128 j128) : zSim X_X9_charOf (1 + (n + 1)) P 67 (cX9_charOf_67 self P j128) := by
  unfold cX9_charOf_67
  refine sm_ishr (pc := 67) dX9_charOf_67 ?_
  refine sm_iconst (pc := 68) dX9_charOf_68 zc_i_1 ?_
  refine sm_iload (pc := 69) (n := 4) dX9_charOf_69 ?_
  refine sm_iconst (pc := 71) dX9_charOf_71 zc_i_1 ?_
  refine sm_isub (pc := 72) dX9_charOf_72 ?_
  refine sm_ishl (pc := 73) dX9_charOf_73 ?_
  refine sm_iconst (pc := 74) dX9_charOf_74 zc_i_1 ?_
  refine sm_isub (pc := 75) dX9_charOf_75 ?_
  refine sm_iand (pc := 76) dX9_charOf_76 ?_
  refine sm_istore (pc := 77) (n := 7) dX9_charOf_77 ?_
  refine sm_aload_n (pc := 79) (n := 0) dX9_charOf_79 rfl ?_
  refine sm_iload_n (pc := 80) (n := 1) dX9_charOf_80 rfl ?_
  refine sm_iconst (pc := 81) dX9_charOf_81 zc_i_1 ?_
  refine sm_iload (pc := 82) (n := 6) dX9_charOf_82 ?_
  refine sm_ishl (pc := 84) dX9_charOf_84 ?_
  refine sm_iconst (pc := 85) dX9_charOf_85 zc_i_m1 ?_
  refine sm_ixor (pc := 86) dX9_charOf_86 ?_
  refine sm_iand (pc := 87) dX9_charOf_87 ?_
  refine sm_iconst (pc := 88) dX9_charOf_88 zc_i_1 ?_
  refine sm_iload (pc := 89) (n := 6) dX9_charOf_89 ?_
  refine sm_iload (pc := 91) (n := 4) dX9_charOf_91 ?_
  refine sm_isub (pc := 93) dX9_charOf_93 ?_
  refine sm_ishl (pc := 94) dX9_charOf_94 ?_
  refine sm_ior (pc := 95) dX9_charOf_95 ?_
  exact scX9_charOf_96 n self hself P j128 hj128
noncomputable def lX9_charOf_27 {d : Nat} (self : List zV → zH d → zP d → Bool) (P : zP d) (r27 : zK d) : zK d := (xild 6 (xpI 12 (xcmp tge (xild 5 (xiret P)) (xild 1 (xild 6 (xbin zshr (xpI 1 (xbin zand (xjoin (bX9_charOf_128 self P r27) (fun j128 => (xif0 t0eq j128 (xild 1 (xild 6 (xild 4 (xbin zsub (xbin zshr (xpI 1 (xbin zand (xpI 1 (xcmp Nat.beq j128 (xild 1 (xild 6 (xild 4 (xbin zsub (xpI 1 (xbin zadd (cX9_charOf_67 self P j128)))))))))))))))))))))))))))
set_option maxRecDepth 100000 in
set_option maxHeartbeats 4000000 in
theorem slX9_charOf_27 {d : Nat} [zGh] (n : Nat) (self : List zV → zH d → zP d → Bool) (hself : zMet X_X9_charOf yX9_charOf (1 + n) self) (P : zP d) (r27 : zK d) (hr27 : zSim X_X9_charOf (1 + (n + 1)) P 27 r27) : zSim X_X9_charOf (1 + (n + 1)) P 27 (lX9_charOf_27 self P r27) := by
  unfold lX9_charOf_27
  refine sm_iload (pc := 27) (n := 6) dX9_charOf_27 ?_
  refine sm_bipush (pc := 29) dX9_charOf_29 zc_b_12 ?_
  refine sm_icmp_ge (pc := 31) (tgt := 134) dX9_charOf_31 (by decide) ?_ ?_
  · skip
    refine sm_iload (pc := 134) (n := 5) dX9_charOf_134 ?_
    exact sm_ireturn (pc := 136) dX9_charOf_136 rfl
  · skip
    refine sm_iload_n (pc := 34) (n := 1) dX9_charOf_34 rfl ?_
    refine sm_iload (pc := 35) (n := 6) dX9_charOf_35 ?_
    refine sm_ishr (pc := 37) dX9_charOf_37 ?_
    refine sm_iconst (pc := 38) dX9_charOf_38 zc_i_1 ?_
    refine sm_iand (pc := 39) dX9_charOf_39 ?_
    refine sm_join (pc := 40) (pc' := 128) (sbX9_charOf_128 n self hself P r27 hr27) (fun j128 hj128 => ?_)
    refine sm_if_eq (pc := 40) (tgt := 128) dX9_charOf_40 (by decide) ?_ ?_
    · skip
      exact hj128
    · skip
      refine sm_iload_n (pc := 43) (n := 1) dX9_charOf_43 rfl ?_
      refine sm_iload (pc := 44) (n := 6) dX9_charOf_44 ?_
      refine sm_iload (pc := 46) (n := 4) dX9_charOf_46 ?_
      refine sm_isub (pc := 48) dX9_charOf_48 ?_
      refine sm_ishr (pc := 49) dX9_charOf_49 ?_
      refine sm_iconst (pc := 50) dX9_charOf_50 zc_i_1 ?_
      refine sm_iand (pc := 51) dX9_charOf_51 ?_
      refine sm_iconst (pc := 52) dX9_charOf_52 zc_i_1 ?_
      refine sm_icmp_ne (pc := 53) (tgt := 59) dX9_charOf_53 (by decide) ?_ ?_
      · skip
        refine sm_iload_n (pc := 59) (n := 1) dX9_charOf_59 rfl ?_
        refine sm_iload (pc := 60) (n := 6) dX9_charOf_60 ?_
        refine sm_iload (pc := 62) (n := 4) dX9_charOf_62 ?_
        refine sm_isub (pc := 64) dX9_charOf_64 ?_
        refine sm_iconst (pc := 65) dX9_charOf_65 zc_i_1 ?_
        refine sm_iadd (pc := 66) dX9_charOf_66 ?_
        exact scX9_charOf_67 n self hself P j128 hj128
      · skip
        refine sm_goto (pc := 56) (tgt := 128) dX9_charOf_56 (by decide) ?_
        exact hj128
noncomputable def b_X9_charOf {d : Nat} (self : List zV → zH d → zP d → Bool) (P : zP d) : zK d := (xild 3 (xald 0 (xgfR 25 4 (xild 2 (xald1 0 (xcmp Nat.beq (xpI 1 (xiret P)) (xald 0 (xild 2 (xild 3 (xcV 25 3 0 0 f_X9_partOf (xist 4 (xpI 0 (xist 5 (xild 4 (xist 6 (xloop (fun r27 => (lX9_charOf_27 self P r27)) 100000))))))))))))))))
set_option maxRecDepth 100000 in
set_option maxHeartbeats 4000000 in
theorem s_X9_charOf {d : Nat} [zGh] (n : Nat) (self : List zV → zH d → zP d → Bool) (hself : zMet X_X9_charOf yX9_charOf (1 + n) self) (P : zP d) : zSim X_X9_charOf (1 + (n + 1)) P 0 (b_X9_charOf self P) := by
  unfold b_X9_charOf
  refine sm_iload_n (pc := 0) (n := 3) dX9_charOf_0 rfl ?_
  refine sm_aload_n (pc := 1) (n := 0) dX9_charOf_1 rfl ?_
  refine gf_X9_13 (pc := 2) rfl dX9_charOf_2 ?_
  refine sm_iload_n (pc := 5) (n := 2) dX9_charOf_5 rfl ?_
  refine sm_iaload (pc := 6) dX9_charOf_6 ?_
  refine sm_icmp_ne (pc := 7) (tgt := 12) dX9_charOf_7 (by decide) ?_ ?_
  · skip
    refine sm_aload_n (pc := 12) (n := 0) dX9_charOf_12 rfl ?_
    refine sm_iload_n (pc := 13) (n := 2) dX9_charOf_13 rfl ?_
    refine sm_iload_n (pc := 14) (n := 3) dX9_charOf_14 rfl ?_
    refine sm_cV (pc := 15) (ci := 9) (n := 3) (mc := 0) (ms := 0) rfl m_X9_partOf (cr_X9_175 (X := X_X9_charOf) (fr := 1 + (n + 1)) (frc := 1) (pc := 15) (mc := 0) (ms := 0) rfl (by omega) dX9_charOf_15) ?_
    refine sm_istore (pc := 18) (n := 4) dX9_charOf_18 ?_
    refine sm_iconst (pc := 20) dX9_charOf_20 zc_i_0 ?_
    refine sm_istore (pc := 21) (n := 5) dX9_charOf_21 ?_
    refine sm_iload (pc := 23) (n := 4) dX9_charOf_23 ?_
    refine sm_istore (pc := 25) (n := 6) dX9_charOf_25 ?_
    exact sm_loop (fun r27 hr27 => slX9_charOf_27 n self hself P r27 hr27) _
  · skip
    refine sm_iconst (pc := 10) dX9_charOf_10 zc_i_1 ?_
    exact sm_ireturn (pc := 11) dX9_charOf_11 rfl
noncomputable def f_X9_charOf {d : Nat} : List zV → zH d → zP d → Bool := zrec 9 b_X9_charOf 8
theorem m_X9_charOf {d : Nat} : zMet (d := d) X_X9_charOf yX9_charOf 9 f_X9_charOf := zmet_rec (X := X_X9_charOf) (fr := 1) (by decide) rfl rfl (fun n f hf _ P => s_X9_charOf n f hf P) 8

abbrev X_X9_cores : zM := (RX9, cX9_cores, 5, none, "cores")
noncomputable def bX9_cores_212 {d : Nat} (P : zP d) (r7 : zK d) : zK d := (xinc 1 1 r7)
set_option maxRecDepth 100000 in
set_option maxHeartbeats 4000000 in
theorem sbX9_cores_212 {d : Nat} [zGh] (P : zP d) (r7 : zK d) (hr7 : zSim X_X9_cores 3 P 7 r7) : zSim X_X9_cores 3 P 212 (bX9_cores_212 P r7) := by
  unfold bX9_cores_212
  refine sm_iinc (pc := 212) (n := 1) dX9_cores_212 zc_i_1 ?_
  refine sm_goto (pc := 215) (tgt := 7) dX9_cores_215 (by decide) ?_
  exact hr7
noncomputable def cX9_cores_207 {d : Nat} (P : zP d) (j212 : zK d) : zK d := (xpI 1 (xbin zadd (xpfI 25 18 j212)))
set_option maxRecDepth 100000 in
set_option maxHeartbeats 4000000 in
theorem scX9_cores_207 {d : Nat} [zGh] (P : zP d) (j212 : zK d) (hj212 : zSim X_X9_cores 3 P 212 j212) : zSim X_X9_cores 3 P 207 (cX9_cores_207 P j212) := by
  unfold cX9_cores_207
  refine sm_iconst (pc := 207) dX9_cores_207 zc_i_1 ?_
  refine sm_iadd (pc := 208) dX9_cores_208 ?_
  refine pf_X9_199 (pc := 209) rfl dX9_cores_209 ?_
  exact hj212
noncomputable def bX9_cores_163 {d : Nat} (P : zP d) (r133 : zK d) : zK d := (xinc 4 1 r133)
set_option maxRecDepth 100000 in
set_option maxHeartbeats 4000000 in
theorem sbX9_cores_163 {d : Nat} [zGh] (P : zP d) (r133 : zK d) (hr133 : zSim X_X9_cores 3 P 133 r133) : zSim X_X9_cores 3 P 163 (bX9_cores_163 P r133) := by
  unfold bX9_cores_163
  refine sm_iinc (pc := 163) (n := 4) dX9_cores_163 zc_i_1 ?_
  refine sm_goto (pc := 166) (tgt := 133) dX9_cores_166 (by decide) ?_
  exact hr133
noncomputable def lX9_cores_133 {d : Nat} (P : zP d) (r133 : zK d) (r7 : zK d) : zK d := (xild 4 (xild 1 (xcmp tge (xald 0 (xgfR 25 17 (xild 1 (xald1 0 (xpI 4294967295 (xjoin (bX9_cores_212 P r7) (fun j212 => (xcmp Nat.beq (xald 0 (xgfR 25 17 (xild 1 (xald 0 (xgfI 25 18 (xast1 0 (fun v => v) (xald 0 (xgfR 25 19 (xald 0 (xgfI 25 18 (xild 1 (xast1 0 (fun v => v) (xald 0 (xdup (xgfI 25 18 (cX9_cores_207 P j212)))))))))))))))) j212)))))))) (xald 0 (xgfR 25 16 (xild 4 (xald1 0 (xild 2 (xjoin (bX9_cores_163 P r133) (fun j163 => (xcmp Nat.beq (xald 0 (xgfR 25 17 (xild 1 (xald 0 (xgfR 25 17 (xild 4 (xald1 0 (xast1 0 (fun v => v) j163)))))))) j163)))))))))))
set_option maxRecDepth 100000 in
set_option maxHeartbeats 4000000 in
theorem slX9_cores_133 {d : Nat} [zGh] (P : zP d) (r133 : zK d) (r7 : zK d) (hr133 : zSim X_X9_cores 3 P 133 r133) (hr7 : zSim X_X9_cores 3 P 7 r7) : zSim X_X9_cores 3 P 133 (lX9_cores_133 P r133 r7) := by
  unfold lX9_cores_133
  refine sm_iload (pc := 133) (n := 4) dX9_cores_133 ?_
  refine sm_iload_n (pc := 135) (n := 1) dX9_cores_135 rfl ?_
  refine sm_icmp_ge (pc := 136) (tgt := 169) dX9_cores_136 (by decide) ?_ ?_
  · skip
    refine sm_aload_n (pc := 169) (n := 0) dX9_cores_169 rfl ?_
    refine gf_X9_47 (pc := 170) rfl dX9_cores_170 ?_
    refine sm_iload_n (pc := 173) (n := 1) dX9_cores_173 rfl ?_
    refine sm_iaload (pc := 174) dX9_cores_174 ?_
    refine sm_iconst (pc := 175) dX9_cores_175 zc_i_m1 ?_
    refine sm_join (pc := 176) (pc' := 212) (sbX9_cores_212 P r7 hr7) (fun j212 hj212 => ?_)
    refine sm_icmp_eq (pc := 176) (tgt := 182) dX9_cores_176 (by decide) ?_ ?_
    · skip
      refine sm_aload_n (pc := 182) (n := 0) dX9_cores_182 rfl ?_
      refine gf_X9_47 (pc := 183) rfl dX9_cores_183 ?_
      refine sm_iload_n (pc := 186) (n := 1) dX9_cores_186 rfl ?_
      refine sm_aload_n (pc := 187) (n := 0) dX9_cores_187 rfl ?_
      refine gf_X9_199 (pc := 188) rfl dX9_cores_188 ?_
      refine sm_iastore (pc := 191) dX9_cores_191 ?_
      refine sm_aload_n (pc := 192) (n := 0) dX9_cores_192 rfl ?_
      refine gf_X9_50 (pc := 193) rfl dX9_cores_193 ?_
      refine sm_aload_n (pc := 196) (n := 0) dX9_cores_196 rfl ?_
      refine gf_X9_199 (pc := 197) rfl dX9_cores_197 ?_
      refine sm_iload_n (pc := 200) (n := 1) dX9_cores_200 rfl ?_
      refine sm_iastore (pc := 201) dX9_cores_201 ?_
      refine sm_aload_n (pc := 202) (n := 0) dX9_cores_202 rfl ?_
      refine sm_dup (pc := 203) dX9_cores_203 ?_
      refine gf_X9_199 (pc := 204) rfl dX9_cores_204 ?_
      exact scX9_cores_207 P j212 hj212
    · skip
      refine sm_goto (pc := 179) (tgt := 212) dX9_cores_179 (by decide) ?_
      exact hj212
  · skip
    refine sm_aload_n (pc := 139) (n := 0) dX9_cores_139 rfl ?_
    refine gf_X9_44 (pc := 140) rfl dX9_cores_140 ?_
    refine sm_iload (pc := 143) (n := 4) dX9_cores_143 ?_
    refine sm_iaload (pc := 145) dX9_cores_145 ?_
    refine sm_iload_n (pc := 146) (n := 2) dX9_cores_146 rfl ?_
    refine sm_join (pc := 147) (pc' := 163) (sbX9_cores_163 P r133 hr133) (fun j163 hj163 => ?_)
    refine sm_icmp_ne (pc := 147) (tgt := 163) dX9_cores_147 (by decide) ?_ ?_
    · skip
      exact hj163
    · skip
      refine sm_aload_n (pc := 150) (n := 0) dX9_cores_150 rfl ?_
      refine gf_X9_47 (pc := 151) rfl dX9_cores_151 ?_
      refine sm_iload_n (pc := 154) (n := 1) dX9_cores_154 rfl ?_
      refine sm_aload_n (pc := 155) (n := 0) dX9_cores_155 rfl ?_
      refine gf_X9_47 (pc := 156) rfl dX9_cores_156 ?_
      refine sm_iload (pc := 159) (n := 4) dX9_cores_159 ?_
      refine sm_iaload (pc := 161) dX9_cores_161 ?_
      refine sm_iastore (pc := 162) dX9_cores_162 ?_
      exact hj163
noncomputable def bX9_cores_107 {d : Nat} (P : zP d) (r42 : zK d) : zK d := (xinc 4 1 r42)
set_option maxRecDepth 100000 in
set_option maxHeartbeats 4000000 in
theorem sbX9_cores_107 {d : Nat} [zGh] (P : zP d) (r42 : zK d) (hr42 : zSim X_X9_cores 3 P 42 r42) : zSim X_X9_cores 3 P 107 (bX9_cores_107 P r42) := by
  unfold bX9_cores_107
  refine sm_iinc (pc := 107) (n := 4) dX9_cores_107 zc_i_1 ?_
  refine sm_goto (pc := 110) (tgt := 42) dX9_cores_110 (by decide) ?_
  exact hr42
noncomputable def cX9_cores_82 {d : Nat} (P : zP d) (j107 : zK d) : zK d := (xbin zxor (xbin zand (xpI 1 (xild 4 (xald 0 (xgfI 25 1 (xbin zsub (xbin zshl (xbin zor (xist 2 (xald 0 (xgfR 25 15 (xild 1 (xdup2 (xald1 0 (xpI 1 (xbin zadd (xast1 0 (fun v => v) (xpI 1 (xist 3 j107))))))))))))))))))))
set_option maxRecDepth 100000 in
set_option maxHeartbeats 4000000 in
theorem scX9_cores_82 {d : Nat} [zGh] (P : zP d) (j107 : zK d) (hj107 : zSim X_X9_cores 3 P 107 j107) : zSim X_X9_cores 3 P 82 (cX9_cores_82 P j107) := by
  unfold cX9_cores_82
  refine sm_ixor (pc := 82) dX9_cores_82 ?_
  refine sm_iand (pc := 83) dX9_cores_83 ?_
  refine sm_iconst (pc := 84) dX9_cores_84 zc_i_1 ?_
  refine sm_iload (pc := 85) (n := 4) dX9_cores_85 ?_
  refine sm_aload_n (pc := 87) (n := 0) dX9_cores_87 rfl ?_
  refine gf_X9_184 (pc := 88) rfl dX9_cores_88 ?_
  refine sm_isub (pc := 91) dX9_cores_91 ?_
  refine sm_ishl (pc := 92) dX9_cores_92 ?_
  refine sm_ior (pc := 93) dX9_cores_93 ?_
  refine sm_istore_n (pc := 94) (n := 2) dX9_cores_94 rfl ?_
  refine sm_aload_n (pc := 95) (n := 0) dX9_cores_95 rfl ?_
  refine gf_X9_41 (pc := 96) rfl dX9_cores_96 ?_
  refine sm_iload_n (pc := 99) (n := 1) dX9_cores_99 rfl ?_
  refine sm_dup2 (pc := 100) dX9_cores_100 ?_
  refine sm_iaload (pc := 101) dX9_cores_101 ?_
  refine sm_iconst (pc := 102) dX9_cores_102 zc_i_1 ?_
  refine sm_iadd (pc := 103) dX9_cores_103 ?_
  refine sm_iastore (pc := 104) dX9_cores_104 ?_
  refine sm_iconst (pc := 105) dX9_cores_105 zc_i_1 ?_
  refine sm_istore_n (pc := 106) (n := 3) dX9_cores_106 rfl ?_
  exact hj107
noncomputable def lX9_cores_42 {d : Nat} (P : zP d) (r30 : zK d) (r42 : zK d) : zK d := (xild 4 (xpI 12 (xcmp tge r30 (xild 2 (xild 4 (xbin zshr (xpI 1 (xbin zand (xjoin (bX9_cores_107 P r42) (fun j107 => (xif0 t0eq j107 (xild 2 (xild 4 (xald 0 (xgfI 25 1 (xbin zsub (xbin zshr (xpI 1 (xbin zand (xpI 1 (xcmp Nat.beq j107 (xild 2 (xpI 1 (xild 4 (xbin zshl (xpI 4294967295 (cX9_cores_82 P j107)))))))))))))))))))))))))))
set_option maxRecDepth 100000 in
set_option maxHeartbeats 4000000 in
theorem slX9_cores_42 {d : Nat} [zGh] (P : zP d) (r30 : zK d) (r42 : zK d) (hr30 : zSim X_X9_cores 3 P 30 r30) (hr42 : zSim X_X9_cores 3 P 42 r42) : zSim X_X9_cores 3 P 42 (lX9_cores_42 P r30 r42) := by
  unfold lX9_cores_42
  refine sm_iload (pc := 42) (n := 4) dX9_cores_42 ?_
  refine sm_bipush (pc := 44) dX9_cores_44 zc_b_12 ?_
  refine sm_icmp_ge (pc := 46) (tgt := 113) dX9_cores_46 (by decide) ?_ ?_
  · skip
    refine sm_goto (pc := 113) (tgt := 30) dX9_cores_113 (by decide) ?_
    exact hr30
  · skip
    refine sm_iload_n (pc := 49) (n := 2) dX9_cores_49 rfl ?_
    refine sm_iload (pc := 50) (n := 4) dX9_cores_50 ?_
    refine sm_ishr (pc := 52) dX9_cores_52 ?_
    refine sm_iconst (pc := 53) dX9_cores_53 zc_i_1 ?_
    refine sm_iand (pc := 54) dX9_cores_54 ?_
    refine sm_join (pc := 55) (pc' := 107) (sbX9_cores_107 P r42 hr42) (fun j107 hj107 => ?_)
    refine sm_if_eq (pc := 55) (tgt := 107) dX9_cores_55 (by decide) ?_ ?_
    · skip
      exact hj107
    · skip
      refine sm_iload_n (pc := 58) (n := 2) dX9_cores_58 rfl ?_
      refine sm_iload (pc := 59) (n := 4) dX9_cores_59 ?_
      refine sm_aload_n (pc := 61) (n := 0) dX9_cores_61 rfl ?_
      refine gf_X9_184 (pc := 62) rfl dX9_cores_62 ?_
      refine sm_isub (pc := 65) dX9_cores_65 ?_
      refine sm_ishr (pc := 66) dX9_cores_66 ?_
      refine sm_iconst (pc := 67) dX9_cores_67 zc_i_1 ?_
      refine sm_iand (pc := 68) dX9_cores_68 ?_
      refine sm_iconst (pc := 69) dX9_cores_69 zc_i_1 ?_
      refine sm_icmp_ne (pc := 70) (tgt := 76) dX9_cores_70 (by decide) ?_ ?_
      · skip
        refine sm_iload_n (pc := 76) (n := 2) dX9_cores_76 rfl ?_
        refine sm_iconst (pc := 77) dX9_cores_77 zc_i_1 ?_
        refine sm_iload (pc := 78) (n := 4) dX9_cores_78 ?_
        refine sm_ishl (pc := 80) dX9_cores_80 ?_
        refine sm_iconst (pc := 81) dX9_cores_81 zc_i_m1 ?_
        exact scX9_cores_82 P j107 hj107
      · skip
        refine sm_goto (pc := 73) (tgt := 107) dX9_cores_73 (by decide) ?_
        exact hj107
noncomputable def lX9_cores_30 {d : Nat} (P : zP d) (r30 : zK d) (r7 : zK d) : zK d := (xild 3 (xif0 t0eq (xald 0 (xgfR 25 16 (xild 1 (xild 2 (xast1 0 (fun v => v) (xald 0 (xgfR 25 17 (xild 1 (xpI 4294967295 (xast1 0 (fun v => v) (xpI 0 (xist 4 (xloop (fun r133 => (lX9_cores_133 P r133 r7)) 100000))))))))))))) (xpI 0 (xist 3 (xald 0 (xgfI 25 1 (xist 4 (xloop (fun r42 => (lX9_cores_42 P r30 r42)) 100000))))))))
set_option maxRecDepth 100000 in
set_option maxHeartbeats 4000000 in
theorem slX9_cores_30 {d : Nat} [zGh] (P : zP d) (r30 : zK d) (r7 : zK d) (hr30 : zSim X_X9_cores 3 P 30 r30) (hr7 : zSim X_X9_cores 3 P 7 r7) : zSim X_X9_cores 3 P 30 (lX9_cores_30 P r30 r7) := by
  unfold lX9_cores_30
  refine sm_iload_n (pc := 30) (n := 3) dX9_cores_30 rfl ?_
  refine sm_if_eq (pc := 31) (tgt := 116) dX9_cores_31 (by decide) ?_ ?_
  · skip
    refine sm_aload_n (pc := 116) (n := 0) dX9_cores_116 rfl ?_
    refine gf_X9_44 (pc := 117) rfl dX9_cores_117 ?_
    refine sm_iload_n (pc := 120) (n := 1) dX9_cores_120 rfl ?_
    refine sm_iload_n (pc := 121) (n := 2) dX9_cores_121 rfl ?_
    refine sm_iastore (pc := 122) dX9_cores_122 ?_
    refine sm_aload_n (pc := 123) (n := 0) dX9_cores_123 rfl ?_
    refine gf_X9_47 (pc := 124) rfl dX9_cores_124 ?_
    refine sm_iload_n (pc := 127) (n := 1) dX9_cores_127 rfl ?_
    refine sm_iconst (pc := 128) dX9_cores_128 zc_i_m1 ?_
    refine sm_iastore (pc := 129) dX9_cores_129 ?_
    refine sm_iconst (pc := 130) dX9_cores_130 zc_i_0 ?_
    refine sm_istore (pc := 131) (n := 4) dX9_cores_131 ?_
    exact sm_loop (fun r133 hr133 => slX9_cores_133 P r133 r7 hr133 hr7) _
  · skip
    refine sm_iconst (pc := 34) dX9_cores_34 zc_i_0 ?_
    refine sm_istore_n (pc := 35) (n := 3) dX9_cores_35 rfl ?_
    refine sm_aload_n (pc := 36) (n := 0) dX9_cores_36 rfl ?_
    refine gf_X9_184 (pc := 37) rfl dX9_cores_37 ?_
    refine sm_istore (pc := 40) (n := 4) dX9_cores_40 ?_
    exact sm_loop (fun r42 hr42 => slX9_cores_42 P r30 r42 hr30 hr42) _
noncomputable def lX9_cores_7 {d : Nat} (P : zP d) (r7 : zK d) : zK d := (xild 1 (xald 0 (xgfI 25 2 (xcmp tge (xvret P) (xald 0 (xild 1 (xcV 25 2 0 0 f_X9_beadsOf (xist 2 (xald 0 (xgfR 25 15 (xild 1 (xpI 0 (xast1 0 (fun v => v) (xpI 1 (xist 3 (xloop (fun r30 => (lX9_cores_30 P r30 r7)) 100000))))))))))))))))
set_option maxRecDepth 100000 in
set_option maxHeartbeats 4000000 in
theorem slX9_cores_7 {d : Nat} [zGh] (P : zP d) (r7 : zK d) (hr7 : zSim X_X9_cores 3 P 7 r7) : zSim X_X9_cores 3 P 7 (lX9_cores_7 P r7) := by
  unfold lX9_cores_7
  refine sm_iload_n (pc := 7) (n := 1) dX9_cores_7 rfl ?_
  refine sm_aload_n (pc := 8) (n := 0) dX9_cores_8 rfl ?_
  refine gf_X9_153 (pc := 9) rfl dX9_cores_9 ?_
  refine sm_icmp_ge (pc := 12) (tgt := 218) dX9_cores_12 (by decide) ?_ ?_
  · skip
    exact sm_vreturn (pc := 218) dX9_cores_218 rfl
  · skip
    refine sm_aload_n (pc := 15) (n := 0) dX9_cores_15 rfl ?_
    refine sm_iload_n (pc := 16) (n := 1) dX9_cores_16 rfl ?_
    refine sm_cV (pc := 17) (ci := 9) (n := 2) (mc := 0) (ms := 0) rfl m_X9_beadsOf (cr_X9_202 (X := X_X9_cores) (fr := 3) (frc := 2) (pc := 17) (mc := 0) (ms := 0) rfl (by decide) dX9_cores_17) ?_
    refine sm_istore_n (pc := 20) (n := 2) dX9_cores_20 rfl ?_
    refine sm_aload_n (pc := 21) (n := 0) dX9_cores_21 rfl ?_
    refine gf_X9_41 (pc := 22) rfl dX9_cores_22 ?_
    refine sm_iload_n (pc := 25) (n := 1) dX9_cores_25 rfl ?_
    refine sm_iconst (pc := 26) dX9_cores_26 zc_i_0 ?_
    refine sm_iastore (pc := 27) dX9_cores_27 ?_
    refine sm_iconst (pc := 28) dX9_cores_28 zc_i_1 ?_
    refine sm_istore_n (pc := 29) (n := 3) dX9_cores_29 rfl ?_
    exact sm_loop (fun r30 hr30 => slX9_cores_30 P r30 r7 hr30 hr7) _
noncomputable def b_X9_cores {d : Nat} (P : zP d) : zK d := (xald 0 (xpI 0 (xpfI 25 18 (xpI 0 (xist 1 (xloop (fun r7 => (lX9_cores_7 P r7)) 100000))))))
set_option maxRecDepth 100000 in
set_option maxHeartbeats 4000000 in
theorem s_X9_cores {d : Nat} [zGh] (P : zP d) : zSim X_X9_cores 3 P 0 (b_X9_cores P) := by
  unfold b_X9_cores
  refine sm_aload_n (pc := 0) (n := 0) dX9_cores_0 rfl ?_
  refine sm_iconst (pc := 1) dX9_cores_1 zc_i_0 ?_
  refine pf_X9_199 (pc := 2) rfl dX9_cores_2 ?_
  refine sm_iconst (pc := 5) dX9_cores_5 zc_i_0 ?_
  refine sm_istore_n (pc := 6) (n := 1) dX9_cores_6 rfl ?_
  exact sm_loop (fun r7 hr7 => slX9_cores_7 P r7 hr7) _
noncomputable def f_X9_cores {d : Nat} : List zV → zH d → zP d → Bool := zfn 5 b_X9_cores
theorem m_X9_cores {d : Nat} : zMet (d := d) X_X9_cores yX9_cores 3 f_X9_cores := zmet_mk (X := X_X9_cores) (by decide) rfl rfl s_X9_cores

abbrev X_X9_rowOf : zM := (RX9, cX9_rowOf, 4, (some .int), "rowOf")
noncomputable def lX9_rowOf_4 {d : Nat} (P : zP d) (r4 : zK d) : zK d := (xild 2 (xald 0 (xald 0 (xgfI 25 25 (xild 3 (xcV 25 3 0 0 f_X9_partOf (xcmp tge (xild 2 (xald 0 (xald 0 (xgfI 25 25 (xild 3 (xcV 25 3 0 0 f_X9_partOf (xbin zsub (xist 2 (xinc 3 1 r4))))))))) (xild 3 (xiret P)))))))))
set_option maxRecDepth 100000 in
set_option maxHeartbeats 4000000 in
theorem slX9_rowOf_4 {d : Nat} [zGh] (P : zP d) (r4 : zK d) (hr4 : zSim X_X9_rowOf 2 P 4 r4) : zSim X_X9_rowOf 2 P 4 (lX9_rowOf_4 P r4) := by
  unfold lX9_rowOf_4
  refine sm_iload_n (pc := 4) (n := 2) dX9_rowOf_4 rfl ?_
  refine sm_aload_n (pc := 5) (n := 0) dX9_rowOf_5 rfl ?_
  refine sm_aload_n (pc := 6) (n := 0) dX9_rowOf_6 rfl ?_
  refine gf_X9_205 (pc := 7) rfl dX9_rowOf_7 ?_
  refine sm_iload_n (pc := 10) (n := 3) dX9_rowOf_10 rfl ?_
  refine sm_cV (pc := 11) (ci := 9) (n := 3) (mc := 0) (ms := 0) rfl m_X9_partOf (cr_X9_175 (X := X_X9_rowOf) (fr := 2) (frc := 1) (pc := 11) (mc := 0) (ms := 0) rfl (by decide) dX9_rowOf_11) ?_
  refine sm_icmp_lt (pc := 14) (tgt := 35) dX9_rowOf_14 (by decide) ?_ ?_
  · skip
    refine sm_iload_n (pc := 35) (n := 3) dX9_rowOf_35 rfl ?_
    exact sm_ireturn (pc := 36) dX9_rowOf_36 rfl
  · skip
    refine sm_iload_n (pc := 17) (n := 2) dX9_rowOf_17 rfl ?_
    refine sm_aload_n (pc := 18) (n := 0) dX9_rowOf_18 rfl ?_
    refine sm_aload_n (pc := 19) (n := 0) dX9_rowOf_19 rfl ?_
    refine gf_X9_205 (pc := 20) rfl dX9_rowOf_20 ?_
    refine sm_iload_n (pc := 23) (n := 3) dX9_rowOf_23 rfl ?_
    refine sm_cV (pc := 24) (ci := 9) (n := 3) (mc := 0) (ms := 0) rfl m_X9_partOf (cr_X9_175 (X := X_X9_rowOf) (fr := 2) (frc := 1) (pc := 24) (mc := 0) (ms := 0) rfl (by decide) dX9_rowOf_24) ?_
    refine sm_isub (pc := 27) dX9_rowOf_27 ?_
    refine sm_istore_n (pc := 28) (n := 2) dX9_rowOf_28 rfl ?_
    refine sm_iinc (pc := 29) (n := 3) dX9_rowOf_29 zc_i_1 ?_
    refine sm_goto (pc := 32) (tgt := 4) dX9_rowOf_32 (by decide) ?_
    exact hr4
noncomputable def b_X9_rowOf {d : Nat} (P : zP d) : zK d := (xild 1 (xist 2 (xpI 0 (xist 3 (xloop (fun r4 => (lX9_rowOf_4 P r4)) 100000)))))
set_option maxRecDepth 100000 in
set_option maxHeartbeats 4000000 in
theorem s_X9_rowOf {d : Nat} [zGh] (P : zP d) : zSim X_X9_rowOf 2 P 0 (b_X9_rowOf P) := by
  unfold b_X9_rowOf
  refine sm_iload_n (pc := 0) (n := 1) dX9_rowOf_0 rfl ?_
  refine sm_istore_n (pc := 1) (n := 2) dX9_rowOf_1 rfl ?_
  refine sm_iconst (pc := 2) dX9_rowOf_2 zc_i_0 ?_
  refine sm_istore_n (pc := 3) (n := 3) dX9_rowOf_3 rfl ?_
  exact sm_loop (fun r4 hr4 => slX9_rowOf_4 P r4 hr4) _
noncomputable def f_X9_rowOf {d : Nat} : List zV → zH d → zP d → Bool := zfn 4 b_X9_rowOf
theorem m_X9_rowOf {d : Nat} : zMet (d := d) X_X9_rowOf yX9_rowOf 2 f_X9_rowOf := zmet_mk (X := X_X9_rowOf) (by decide) rfl rfl s_X9_rowOf

abbrev X_X9_cellAt : zM := (RX9, cX9_cellAt, 5, (some .int), "cellAt")
noncomputable def lX9_cellAt_5 {d : Nat} (P : zP d) (r5 : zK d) : zK d := (xild 4 (xild 1 (xcmp tge (xild 3 (xiret P)) (xild 3 (xald 0 (xald 0 (xgfI 25 25 (xild 4 (xcV 25 3 0 0 f_X9_partOf (xbin zadd (xist 3 (xinc 4 1 r5))))))))))))
set_option maxRecDepth 100000 in
set_option maxHeartbeats 4000000 in
theorem slX9_cellAt_5 {d : Nat} [zGh] (P : zP d) (r5 : zK d) (hr5 : zSim X_X9_cellAt 2 P 5 r5) : zSim X_X9_cellAt 2 P 5 (lX9_cellAt_5 P r5) := by
  unfold lX9_cellAt_5
  refine sm_iload (pc := 5) (n := 4) dX9_cellAt_5 ?_
  refine sm_iload_n (pc := 7) (n := 1) dX9_cellAt_7 rfl ?_
  refine sm_icmp_ge (pc := 8) (tgt := 30) dX9_cellAt_8 (by decide) ?_ ?_
  · skip
    refine sm_iload_n (pc := 30) (n := 3) dX9_cellAt_30 rfl ?_
    exact sm_ireturn (pc := 31) dX9_cellAt_31 rfl
  · skip
    refine sm_iload_n (pc := 11) (n := 3) dX9_cellAt_11 rfl ?_
    refine sm_aload_n (pc := 12) (n := 0) dX9_cellAt_12 rfl ?_
    refine sm_aload_n (pc := 13) (n := 0) dX9_cellAt_13 rfl ?_
    refine gf_X9_205 (pc := 14) rfl dX9_cellAt_14 ?_
    refine sm_iload (pc := 17) (n := 4) dX9_cellAt_17 ?_
    refine sm_cV (pc := 19) (ci := 9) (n := 3) (mc := 0) (ms := 0) rfl m_X9_partOf (cr_X9_175 (X := X_X9_cellAt) (fr := 2) (frc := 1) (pc := 19) (mc := 0) (ms := 0) rfl (by decide) dX9_cellAt_19) ?_
    refine sm_iadd (pc := 22) dX9_cellAt_22 ?_
    refine sm_istore_n (pc := 23) (n := 3) dX9_cellAt_23 rfl ?_
    refine sm_iinc (pc := 24) (n := 4) dX9_cellAt_24 zc_i_1 ?_
    refine sm_goto (pc := 27) (tgt := 5) dX9_cellAt_27 (by decide) ?_
    exact hr5
noncomputable def b_X9_cellAt {d : Nat} (P : zP d) : zK d := (xild 2 (xist 3 (xpI 0 (xist 4 (xloop (fun r5 => (lX9_cellAt_5 P r5)) 100000)))))
set_option maxRecDepth 100000 in
set_option maxHeartbeats 4000000 in
theorem s_X9_cellAt {d : Nat} [zGh] (P : zP d) : zSim X_X9_cellAt 2 P 0 (b_X9_cellAt P) := by
  unfold b_X9_cellAt
  refine sm_iload_n (pc := 0) (n := 2) dX9_cellAt_0 rfl ?_
  refine sm_istore_n (pc := 1) (n := 3) dX9_cellAt_1 rfl ?_
  refine sm_iconst (pc := 2) dX9_cellAt_2 zc_i_0 ?_
  refine sm_istore (pc := 3) (n := 4) dX9_cellAt_3 ?_
  exact sm_loop (fun r5 hr5 => slX9_cellAt_5 P r5 hr5) _
noncomputable def f_X9_cellAt {d : Nat} : List zV → zH d → zP d → Bool := zfn 5 b_X9_cellAt
theorem m_X9_cellAt {d : Nat} : zMet (d := d) X_X9_cellAt yX9_cellAt 2 f_X9_cellAt := zmet_mk (X := X_X9_cellAt) (by decide) rfl rfl s_X9_cellAt

abbrev X_X9_fills : zM := (RX9, cX9_fills, 6, none, "fills")
noncomputable def bX9_fills_161 {d : Nat} (self : List zV → zH d → zP d → Bool) (P : zP d) (r74 : zK d) : zK d := (xinc 5 1 r74)
set_option maxRecDepth 100000 in
set_option maxHeartbeats 4000000 in
theorem sbX9_fills_161 {d : Nat} [zGh] (n : Nat) (self : List zV → zH d → zP d → Bool) (hself : zMet X_X9_fills yX9_fills (2 + n) self) (P : zP d) (r74 : zK d) (hr74 : zSim X_X9_fills (2 + (n + 1)) P 74 r74) : zSim X_X9_fills (2 + (n + 1)) P 161 (bX9_fills_161 self P r74) := by
  unfold bX9_fills_161
  refine sm_iinc (pc := 161) (n := 5) dX9_fills_161 zc_i_1 ?_
  refine sm_goto (pc := 164) (tgt := 74) dX9_fills_164 (by decide) ?_
  exact hr74
noncomputable def bX9_fills_140 {d : Nat} (self : List zV → zH d → zP d → Bool) (P : zP d) (j161 : zK d) : zK d := (xald 0 (xgfR 25 24 (xild 1 (xild 5 (xast1 0 (fun v => v) (xald 0 (xild 1 (xpI 1 (xbin zadd (xild 2 (xpI 1 (xild 5 (xbin zshl (xbin zor (xcV 25 3 0 0 self j161)))))))))))))))
set_option maxRecDepth 100000 in
set_option maxHeartbeats 4000000 in
theorem sbX9_fills_140 {d : Nat} [zGh] (n : Nat) (self : List zV → zH d → zP d → Bool) (hself : zMet X_X9_fills yX9_fills (2 + n) self) (P : zP d) (j161 : zK d) (hj161 : zSim X_X9_fills (2 + (n + 1)) P 161 j161) : zSim X_X9_fills (2 + (n + 1)) P 140 (bX9_fills_140 self P j161) := by
  unfold bX9_fills_140
  refine sm_aload_n (pc := 140) (n := 0) dX9_fills_140 rfl ?_
  refine gf_X9_62 (pc := 141) rfl dX9_fills_141 ?_
  refine sm_iload_n (pc := 144) (n := 1) dX9_fills_144 rfl ?_
  refine sm_iload (pc := 145) (n := 5) dX9_fills_145 ?_
  refine sm_iastore (pc := 147) dX9_fills_147 ?_
  refine sm_aload_n (pc := 148) (n := 0) dX9_fills_148 rfl ?_
  refine sm_iload_n (pc := 149) (n := 1) dX9_fills_149 rfl ?_
  refine sm_iconst (pc := 150) dX9_fills_150 zc_i_1 ?_
  refine sm_iadd (pc := 151) dX9_fills_151 ?_
  refine sm_iload_n (pc := 152) (n := 2) dX9_fills_152 rfl ?_
  refine sm_iconst (pc := 153) dX9_fills_153 zc_i_1 ?_
  refine sm_iload (pc := 154) (n := 5) dX9_fills_154 ?_
  refine sm_ishl (pc := 156) dX9_fills_156 ?_
  refine sm_ior (pc := 157) dX9_fills_157 ?_
  refine sm_cV (pc := 158) (ci := 9) (n := 3) (mc := 0) (ms := 0) rfl hself (cr_X9_217 (X := X_X9_fills) (fr := 2 + (n + 1)) (frc := 2 + n) (pc := 158) (mc := 0) (ms := 0) rfl (by omega) dX9_fills_158) ?_
  exact hj161
noncomputable def bX9_fills_114 {d : Nat} (self : List zV → zH d → zP d → Bool) (P : zP d) (j161 : zK d) : zK d := (xild 3 (xjoin (bX9_fills_140 self P j161) (fun j140 => (xif0 t0le j140 (xald 0 (xgfR 25 24 (xald 0 (xild 3 (xpI 1 (xbin zsub (xild 4 (xcV 25 3 0 0 f_X9_cellAt (xald1 0 (xild 5 (xcmp tle j140 j161)))))))))))))))
set_option maxRecDepth 100000 in
set_option maxHeartbeats 4000000 in
theorem sbX9_fills_114 {d : Nat} [zGh] (n : Nat) (self : List zV → zH d → zP d → Bool) (hself : zMet X_X9_fills yX9_fills (2 + n) self) (P : zP d) (j161 : zK d) (hj161 : zSim X_X9_fills (2 + (n + 1)) P 161 j161) : zSim X_X9_fills (2 + (n + 1)) P 114 (bX9_fills_114 self P j161) := by
  unfold bX9_fills_114
  refine sm_iload_n (pc := 114) (n := 3) dX9_fills_114 rfl ?_
  refine sm_join (pc := 115) (pc' := 140) (sbX9_fills_140 n self hself P j161 hj161) (fun j140 hj140 => ?_)
  refine sm_if_le (pc := 115) (tgt := 140) dX9_fills_115 (by decide) ?_ ?_
  · skip
    exact hj140
  · skip
    refine sm_aload_n (pc := 118) (n := 0) dX9_fills_118 rfl ?_
    refine gf_X9_62 (pc := 119) rfl dX9_fills_119 ?_
    refine sm_aload_n (pc := 122) (n := 0) dX9_fills_122 rfl ?_
    refine sm_iload_n (pc := 123) (n := 3) dX9_fills_123 rfl ?_
    refine sm_iconst (pc := 124) dX9_fills_124 zc_i_1 ?_
    refine sm_isub (pc := 125) dX9_fills_125 ?_
    refine sm_iload (pc := 126) (n := 4) dX9_fills_126 ?_
    refine sm_cV (pc := 128) (ci := 9) (n := 3) (mc := 0) (ms := 0) rfl m_X9_cellAt (cr_X9_214 (X := X_X9_fills) (fr := 2 + (n + 1)) (frc := 2) (pc := 128) (mc := 0) (ms := 0) rfl (by omega) dX9_fills_128) ?_
    refine sm_iaload (pc := 131) dX9_fills_131 ?_
    refine sm_iload (pc := 132) (n := 5) dX9_fills_132 ?_
    refine sm_icmp_le (pc := 134) (tgt := 140) dX9_fills_134 (by decide) ?_ ?_
    · skip
      exact hj140
    · skip
      refine sm_goto (pc := 137) (tgt := 161) dX9_fills_137 (by decide) ?_
      exact hj161
noncomputable def lX9_fills_74 {d : Nat} (self : List zV → zH d → zP d → Bool) (P : zP d) (r74 : zK d) : zK d := (xild 5 (xald 0 (xgfI 25 0 (xcmp tle (xild 2 (xild 5 (xbin zshr (xpI 1 (xbin zand (xpI 1 (xjoin (bX9_fills_161 self P r74) (fun j161 => (xcmp Nat.beq j161 (xild 4 (xjoin (bX9_fills_114 self P j161) (fun j114 => (xif0 t0le j114 (xald 0 (xgfR 25 24 (xild 1 (xpI 1 (xbin zsub (xald1 0 (xild 5 (xcmp tle j114 j161))))))))))))))))))))) (xvret P)))))
set_option maxRecDepth 100000 in
set_option maxHeartbeats 4000000 in
theorem slX9_fills_74 {d : Nat} [zGh] (n : Nat) (self : List zV → zH d → zP d → Bool) (hself : zMet X_X9_fills yX9_fills (2 + n) self) (P : zP d) (r74 : zK d) (hr74 : zSim X_X9_fills (2 + (n + 1)) P 74 r74) : zSim X_X9_fills (2 + (n + 1)) P 74 (lX9_fills_74 self P r74) := by
  unfold lX9_fills_74
  refine sm_iload (pc := 74) (n := 5) dX9_fills_74 ?_
  refine sm_aload_n (pc := 76) (n := 0) dX9_fills_76 rfl ?_
  refine gf_X9_169 (pc := 77) rfl dX9_fills_77 ?_
  refine sm_icmp_gt (pc := 80) (tgt := 167) dX9_fills_80 (by decide) ?_ ?_
  · skip
    exact sm_vreturn (pc := 167) dX9_fills_167 rfl
  · skip
    refine sm_iload_n (pc := 83) (n := 2) dX9_fills_83 rfl ?_
    refine sm_iload (pc := 84) (n := 5) dX9_fills_84 ?_
    refine sm_ishr (pc := 86) dX9_fills_86 ?_
    refine sm_iconst (pc := 87) dX9_fills_87 zc_i_1 ?_
    refine sm_iand (pc := 88) dX9_fills_88 ?_
    refine sm_iconst (pc := 89) dX9_fills_89 zc_i_1 ?_
    refine sm_join (pc := 90) (pc' := 161) (sbX9_fills_161 n self hself P r74 hr74) (fun j161 hj161 => ?_)
    refine sm_icmp_ne (pc := 90) (tgt := 96) dX9_fills_90 (by decide) ?_ ?_
    · skip
      refine sm_iload (pc := 96) (n := 4) dX9_fills_96 ?_
      refine sm_join (pc := 98) (pc' := 114) (sbX9_fills_114 n self hself P j161 hj161) (fun j114 hj114 => ?_)
      refine sm_if_le (pc := 98) (tgt := 114) dX9_fills_98 (by decide) ?_ ?_
      · skip
        exact hj114
      · skip
        refine sm_aload_n (pc := 101) (n := 0) dX9_fills_101 rfl ?_
        refine gf_X9_62 (pc := 102) rfl dX9_fills_102 ?_
        refine sm_iload_n (pc := 105) (n := 1) dX9_fills_105 rfl ?_
        refine sm_iconst (pc := 106) dX9_fills_106 zc_i_1 ?_
        refine sm_isub (pc := 107) dX9_fills_107 ?_
        refine sm_iaload (pc := 108) dX9_fills_108 ?_
        refine sm_iload (pc := 109) (n := 5) dX9_fills_109 ?_
        refine sm_icmp_gt (pc := 111) (tgt := 161) dX9_fills_111 (by decide) ?_ ?_
        · skip
          exact hj161
        · skip
          exact hj114
    · skip
      refine sm_goto (pc := 93) (tgt := 161) dX9_fills_93 (by decide) ?_
      exact hj161
noncomputable def lX9_fills_10 {d : Nat} (self : List zV → zH d → zP d → Bool) (P : zP d) (r10 : zK d) : zK d := (xild 3 (xald 0 (xgfI 25 0 (xcmp tge (xald 0 (xdup (xgfI 25 23 (xpI 1 (xbin zadd (xpfI 25 23 (xvret P))))))) (xald 0 (xgfR 25 22 (xpI 6 (xald 0 (xgfI 25 23 (xbin zmul (xild 3 (xbin zadd (xald 0 (xgfR 25 24 (xild 3 (xald1 0 (xast1 0 (fun v => v) (xinc 3 1 r10))))))))))))))))))
set_option maxRecDepth 100000 in
set_option maxHeartbeats 4000000 in
theorem slX9_fills_10 {d : Nat} [zGh] (n : Nat) (self : List zV → zH d → zP d → Bool) (hself : zMet X_X9_fills yX9_fills (2 + n) self) (P : zP d) (r10 : zK d) (hr10 : zSim X_X9_fills (2 + (n + 1)) P 10 r10) : zSim X_X9_fills (2 + (n + 1)) P 10 (lX9_fills_10 self P r10) := by
  unfold lX9_fills_10
  refine sm_iload_n (pc := 10) (n := 3) dX9_fills_10 rfl ?_
  refine sm_aload_n (pc := 11) (n := 0) dX9_fills_11 rfl ?_
  refine gf_X9_169 (pc := 12) rfl dX9_fills_12 ?_
  refine sm_icmp_ge (pc := 15) (tgt := 44) dX9_fills_15 (by decide) ?_ ?_
  · skip
    refine sm_aload_n (pc := 44) (n := 0) dX9_fills_44 rfl ?_
    refine sm_dup (pc := 45) dX9_fills_45 ?_
    refine gf_X9_208 (pc := 46) rfl dX9_fills_46 ?_
    refine sm_iconst (pc := 49) dX9_fills_49 zc_i_1 ?_
    refine sm_iadd (pc := 50) dX9_fills_50 ?_
    refine pf_X9_208 (pc := 51) rfl dX9_fills_51 ?_
    exact sm_vreturn (pc := 54) dX9_fills_54 rfl
  · skip
    refine sm_aload_n (pc := 18) (n := 0) dX9_fills_18 rfl ?_
    refine gf_X9_59 (pc := 19) rfl dX9_fills_19 ?_
    refine sm_bipush (pc := 22) dX9_fills_22 zc_b_6 ?_
    refine sm_aload_n (pc := 24) (n := 0) dX9_fills_24 rfl ?_
    refine gf_X9_208 (pc := 25) rfl dX9_fills_25 ?_
    refine sm_imul (pc := 28) dX9_fills_28 ?_
    refine sm_iload_n (pc := 29) (n := 3) dX9_fills_29 rfl ?_
    refine sm_iadd (pc := 30) dX9_fills_30 ?_
    refine sm_aload_n (pc := 31) (n := 0) dX9_fills_31 rfl ?_
    refine gf_X9_62 (pc := 32) rfl dX9_fills_32 ?_
    refine sm_iload_n (pc := 35) (n := 3) dX9_fills_35 rfl ?_
    refine sm_iaload (pc := 36) dX9_fills_36 ?_
    refine sm_iastore (pc := 37) dX9_fills_37 ?_
    refine sm_iinc (pc := 38) (n := 3) dX9_fills_38 zc_i_1 ?_
    refine sm_goto (pc := 41) (tgt := 10) dX9_fills_41 (by decide) ?_
    exact hr10
noncomputable def b_X9_fills {d : Nat} (self : List zV → zH d → zP d → Bool) (P : zP d) : zK d := (xild 1 (xald 0 (xgfI 25 0 (xcmp Nat.beq (xpI 0 (xist 3 (xloop (fun r10 => (lX9_fills_10 self P r10)) 100000))) (xald 0 (xild 1 (xcV 25 2 0 0 f_X9_rowOf (xist 3 (xild 1 (xald 0 (xild 3 (xpI 0 (xcV 25 3 0 0 f_X9_cellAt (xbin zsub (xist 4 (xpI 1 (xist 5 (xloop (fun r74 => (lX9_fills_74 self P r74)) 100000))))))))))))))))))
set_option maxRecDepth 100000 in
set_option maxHeartbeats 4000000 in
theorem s_X9_fills {d : Nat} [zGh] (n : Nat) (self : List zV → zH d → zP d → Bool) (hself : zMet X_X9_fills yX9_fills (2 + n) self) (P : zP d) : zSim X_X9_fills (2 + (n + 1)) P 0 (b_X9_fills self P) := by
  unfold b_X9_fills
  refine sm_iload_n (pc := 0) (n := 1) dX9_fills_0 rfl ?_
  refine sm_aload_n (pc := 1) (n := 0) dX9_fills_1 rfl ?_
  refine gf_X9_169 (pc := 2) rfl dX9_fills_2 ?_
  refine sm_icmp_ne (pc := 5) (tgt := 55) dX9_fills_5 (by decide) ?_ ?_
  · skip
    refine sm_aload_n (pc := 55) (n := 0) dX9_fills_55 rfl ?_
    refine sm_iload_n (pc := 56) (n := 1) dX9_fills_56 rfl ?_
    refine sm_cV (pc := 57) (ci := 9) (n := 2) (mc := 0) (ms := 0) rfl m_X9_rowOf (cr_X9_211 (X := X_X9_fills) (fr := 2 + (n + 1)) (frc := 2) (pc := 57) (mc := 0) (ms := 0) rfl (by omega) dX9_fills_57) ?_
    refine sm_istore_n (pc := 60) (n := 3) dX9_fills_60 rfl ?_
    refine sm_iload_n (pc := 61) (n := 1) dX9_fills_61 rfl ?_
    refine sm_aload_n (pc := 62) (n := 0) dX9_fills_62 rfl ?_
    refine sm_iload_n (pc := 63) (n := 3) dX9_fills_63 rfl ?_
    refine sm_iconst (pc := 64) dX9_fills_64 zc_i_0 ?_
    refine sm_cV (pc := 65) (ci := 9) (n := 3) (mc := 0) (ms := 0) rfl m_X9_cellAt (cr_X9_214 (X := X_X9_fills) (fr := 2 + (n + 1)) (frc := 2) (pc := 65) (mc := 0) (ms := 0) rfl (by omega) dX9_fills_65) ?_
    refine sm_isub (pc := 68) dX9_fills_68 ?_
    refine sm_istore (pc := 69) (n := 4) dX9_fills_69 ?_
    refine sm_iconst (pc := 71) dX9_fills_71 zc_i_1 ?_
    refine sm_istore (pc := 72) (n := 5) dX9_fills_72 ?_
    exact sm_loop (fun r74 hr74 => slX9_fills_74 n self hself P r74 hr74) _
  · skip
    refine sm_iconst (pc := 8) dX9_fills_8 zc_i_0 ?_
    refine sm_istore_n (pc := 9) (n := 3) dX9_fills_9 rfl ?_
    exact sm_loop (fun r10 hr10 => slX9_fills_10 n self hself P r10 hr10) _
noncomputable def f_X9_fills {d : Nat} : List zV → zH d → zP d → Bool := zrec 6 b_X9_fills 8
theorem m_X9_fills {d : Nat} : zMet (d := d) X_X9_fills yX9_fills 10 f_X9_fills := zmet_rec (X := X_X9_fills) (fr := 2) (by decide) rfl rfl (fun n f hf _ P => s_X9_fills n f hf P) 8

abbrev X_X9_placeNow : zM := (RX9, cX9_placeNow, 3, (some .int), "placeNow")
noncomputable def bX9_placeNow_68 {d : Nat} (P : zP d) : zK d := (xald 0 (xgfR 25 26 (xild 1 (xald1 0 (xpI 1 (xbin zsub (xiret P)))))))
set_option maxRecDepth 100000 in
set_option maxHeartbeats 4000000 in
theorem sbX9_placeNow_68 {d : Nat} [zGh] (P : zP d) : zSim X_X9_placeNow 1 P 68 (bX9_placeNow_68 P) := by
  unfold bX9_placeNow_68
  refine sm_aload_n (pc := 68) (n := 0) dX9_placeNow_68 rfl ?_
  refine gf_X9_66 (pc := 69) rfl dX9_placeNow_69 ?_
  refine sm_iload_n (pc := 72) (n := 1) dX9_placeNow_72 rfl ?_
  refine sm_iaload (pc := 73) dX9_placeNow_73 ?_
  refine sm_iconst (pc := 74) dX9_placeNow_74 zc_i_1 ?_
  refine sm_isub (pc := 75) dX9_placeNow_75 ?_
  exact sm_ireturn (pc := 76) dX9_placeNow_76 rfl
noncomputable def cX9_placeNow_67 {d : Nat} (P : zP d) (j68 : zK d) : zK d := (xast1 0 (fun v => v) j68)
set_option maxRecDepth 100000 in
set_option maxHeartbeats 4000000 in
theorem scX9_placeNow_67 {d : Nat} [zGh] (P : zP d) (j68 : zK d) (hj68 : zSim X_X9_placeNow 1 P 68 j68) : zSim X_X9_placeNow 1 P 67 (cX9_placeNow_67 P j68) := by
  unfold cX9_placeNow_67
  refine sm_iastore (pc := 67) dX9_placeNow_67 ?_
  exact hj68
noncomputable def lX9_placeNow_7 {d : Nat} (P : zP d) (r7 : zK d) : zK d := (xild 2 (xif0 t0le (xald 0 (xgfR 25 26 (xild 1 (xald1 0 (xjoin (bX9_placeNow_68 P) (fun j68 => (xif0 t0eq (xald 0 (xgfR 25 27 (xald 0 (xgfI 25 28 (xild 1 (xast1 0 (fun v => v) (xald 0 (xdup (xgfI 25 28 (xpI 1 (xbin zadd (xpfI 25 28 (xald 0 (xgfR 25 26 (xild 1 (xald 0 (xgfI 25 28 (cX9_placeNow_67 P j68)))))))))))))))))) j68))))))) (xpI 6 (xild 1 (xbin zmul (xald 0 (xgfR 25 32 (xild 2 (xald1 0 (xbin zadd (xist 1 (xinc 2 4294967295 r7))))))))))))
set_option maxRecDepth 100000 in
set_option maxHeartbeats 4000000 in
theorem slX9_placeNow_7 {d : Nat} [zGh] (P : zP d) (r7 : zK d) (hr7 : zSim X_X9_placeNow 1 P 7 r7) : zSim X_X9_placeNow 1 P 7 (lX9_placeNow_7 P r7) := by
  unfold lX9_placeNow_7
  refine sm_iload_n (pc := 7) (n := 2) dX9_placeNow_7 rfl ?_
  refine sm_if_le (pc := 8) (tgt := 29) dX9_placeNow_8 (by decide) ?_ ?_
  · skip
    refine sm_aload_n (pc := 29) (n := 0) dX9_placeNow_29 rfl ?_
    refine gf_X9_66 (pc := 30) rfl dX9_placeNow_30 ?_
    refine sm_iload_n (pc := 33) (n := 1) dX9_placeNow_33 rfl ?_
    refine sm_iaload (pc := 34) dX9_placeNow_34 ?_
    refine sm_join (pc := 35) (pc' := 68) (sbX9_placeNow_68 P) (fun j68 hj68 => ?_)
    refine sm_if_ne (pc := 35) (tgt := 68) dX9_placeNow_35 (by decide) ?_ ?_
    · skip
      exact hj68
    · skip
      refine sm_aload_n (pc := 38) (n := 0) dX9_placeNow_38 rfl ?_
      refine gf_X9_69 (pc := 39) rfl dX9_placeNow_39 ?_
      refine sm_aload_n (pc := 42) (n := 0) dX9_placeNow_42 rfl ?_
      refine gf_X9_220 (pc := 43) rfl dX9_placeNow_43 ?_
      refine sm_iload_n (pc := 46) (n := 1) dX9_placeNow_46 rfl ?_
      refine sm_iastore (pc := 47) dX9_placeNow_47 ?_
      refine sm_aload_n (pc := 48) (n := 0) dX9_placeNow_48 rfl ?_
      refine sm_dup (pc := 49) dX9_placeNow_49 ?_
      refine gf_X9_220 (pc := 50) rfl dX9_placeNow_50 ?_
      refine sm_iconst (pc := 53) dX9_placeNow_53 zc_i_1 ?_
      refine sm_iadd (pc := 54) dX9_placeNow_54 ?_
      refine pf_X9_220 (pc := 55) rfl dX9_placeNow_55 ?_
      refine sm_aload_n (pc := 58) (n := 0) dX9_placeNow_58 rfl ?_
      refine gf_X9_66 (pc := 59) rfl dX9_placeNow_59 ?_
      refine sm_iload_n (pc := 62) (n := 1) dX9_placeNow_62 rfl ?_
      refine sm_aload_n (pc := 63) (n := 0) dX9_placeNow_63 rfl ?_
      refine gf_X9_220 (pc := 64) rfl dX9_placeNow_64 ?_
      exact scX9_placeNow_67 P j68 hj68
  · skip
    refine sm_bipush (pc := 11) dX9_placeNow_11 zc_b_6 ?_
    refine sm_iload_n (pc := 13) (n := 1) dX9_placeNow_13 rfl ?_
    refine sm_imul (pc := 14) dX9_placeNow_14 ?_
    refine sm_aload_n (pc := 15) (n := 0) dX9_placeNow_15 rfl ?_
    refine gf_X9_81 (pc := 16) rfl dX9_placeNow_16 ?_
    refine sm_iload_n (pc := 19) (n := 2) dX9_placeNow_19 rfl ?_
    refine sm_iaload (pc := 20) dX9_placeNow_20 ?_
    refine sm_iadd (pc := 21) dX9_placeNow_21 ?_
    refine sm_istore_n (pc := 22) (n := 1) dX9_placeNow_22 rfl ?_
    refine sm_iinc (pc := 23) (n := 2) dX9_placeNow_23 zc_i_m1 ?_
    refine sm_goto (pc := 26) (tgt := 7) dX9_placeNow_26 (by decide) ?_
    exact hr7
noncomputable def b_X9_placeNow {d : Nat} (P : zP d) : zK d := (xpI 0 (xist 1 (xald 0 (xgfI 25 0 (xist 2 (xloop (fun r7 => (lX9_placeNow_7 P r7)) 100000))))))
set_option maxRecDepth 100000 in
set_option maxHeartbeats 4000000 in
theorem s_X9_placeNow {d : Nat} [zGh] (P : zP d) : zSim X_X9_placeNow 1 P 0 (b_X9_placeNow P) := by
  unfold b_X9_placeNow
  refine sm_iconst (pc := 0) dX9_placeNow_0 zc_i_0 ?_
  refine sm_istore_n (pc := 1) (n := 1) dX9_placeNow_1 rfl ?_
  refine sm_aload_n (pc := 2) (n := 0) dX9_placeNow_2 rfl ?_
  refine gf_X9_169 (pc := 3) rfl dX9_placeNow_3 ?_
  refine sm_istore_n (pc := 6) (n := 2) dX9_placeNow_6 rfl ?_
  exact sm_loop (fun r7 hr7 => slX9_placeNow_7 P r7 hr7) _
noncomputable def f_X9_placeNow {d : Nat} : List zV → zH d → zP d → Bool := zfn 3 b_X9_placeNow
theorem m_X9_placeNow {d : Nat} : zMet (d := d) X_X9_placeNow yX9_placeNow 1 f_X9_placeNow := zmet_mk (X := X_X9_placeNow) (by decide) rfl rfl s_X9_placeNow

abbrev X_X9_swaps : zM := (RX9, cX9_swaps, 4, none, "swaps")
noncomputable def b_X9_swaps {d : Nat} (P : zP d) : zK d := (xald 0 (xgfR 25 31 (xild 1 (xald1 0 (xist 3 (xald 0 (xgfR 25 31 (xild 1 (xald 0 (xgfR 25 31 (xild 2 (xald1 0 (xast1 0 (fun v => v) (xald 0 (xgfR 25 31 (xild 2 (xild 3 (xast1 0 (fun v => v) (xvret P)))))))))))))))))))
set_option maxRecDepth 100000 in
set_option maxHeartbeats 4000000 in
theorem s_X9_swaps {d : Nat} [zGh] (P : zP d) : zSim X_X9_swaps 1 P 0 (b_X9_swaps P) := by
  unfold b_X9_swaps
  refine sm_aload_n (pc := 0) (n := 0) dX9_swaps_0 rfl ?_
  refine gf_X9_78 (pc := 1) rfl dX9_swaps_1 ?_
  refine sm_iload_n (pc := 4) (n := 1) dX9_swaps_4 rfl ?_
  refine sm_iaload (pc := 5) dX9_swaps_5 ?_
  refine sm_istore_n (pc := 6) (n := 3) dX9_swaps_6 rfl ?_
  refine sm_aload_n (pc := 7) (n := 0) dX9_swaps_7 rfl ?_
  refine gf_X9_78 (pc := 8) rfl dX9_swaps_8 ?_
  refine sm_iload_n (pc := 11) (n := 1) dX9_swaps_11 rfl ?_
  refine sm_aload_n (pc := 12) (n := 0) dX9_swaps_12 rfl ?_
  refine gf_X9_78 (pc := 13) rfl dX9_swaps_13 ?_
  refine sm_iload_n (pc := 16) (n := 2) dX9_swaps_16 rfl ?_
  refine sm_iaload (pc := 17) dX9_swaps_17 ?_
  refine sm_iastore (pc := 18) dX9_swaps_18 ?_
  refine sm_aload_n (pc := 19) (n := 0) dX9_swaps_19 rfl ?_
  refine gf_X9_78 (pc := 20) rfl dX9_swaps_20 ?_
  refine sm_iload_n (pc := 23) (n := 2) dX9_swaps_23 rfl ?_
  refine sm_iload_n (pc := 24) (n := 3) dX9_swaps_24 rfl ?_
  refine sm_iastore (pc := 25) dX9_swaps_25 ?_
  exact sm_vreturn (pc := 26) dX9_swaps_26 rfl
noncomputable def f_X9_swaps {d : Nat} : List zV → zH d → zP d → Bool := zfn 4 b_X9_swaps
theorem m_X9_swaps {d : Nat} : zMet (d := d) X_X9_swaps yX9_swaps 1 f_X9_swaps := zmet_mk (X := X_X9_swaps) (by decide) rfl rfl s_X9_swaps

abbrev X_X9_spreads : zM := (RX9, cX9_spreads, 8, none, "spreads")
noncomputable def bX9_spreads_148 {d : Nat} (self : List zV → zH d → zP d → Bool) (P : zP d) (r81 : zK d) : zK d := (xcV 25 6 0 0 self (xald 0 (xald 0 (xild 4 (xild 3 (xcV 25 3 0 0 f_X9_cellAt (xald 0 (xild 7 (xild 3 (xcV 25 3 0 0 f_X9_cellAt (xcV 25 3 0 0 f_X9_swaps (xinc 7 1 r81))))))))))))
set_option maxRecDepth 100000 in
set_option maxHeartbeats 4000000 in
theorem sbX9_spreads_148 {d : Nat} [zGh] (n : Nat) (self : List zV → zH d → zP d → Bool) (hself : zMet X_X9_spreads yX9_spreads (2 + n) self) (P : zP d) (r81 : zK d) (hr81 : zSim X_X9_spreads (2 + (n + 1)) P 81 r81) : zSim X_X9_spreads (2 + (n + 1)) P 148 (bX9_spreads_148 self P r81) := by
  unfold bX9_spreads_148
  refine sm_cV (pc := 148) (ci := 9) (n := 6) (mc := 0) (ms := 0) rfl hself (cr_X9_227 (X := X_X9_spreads) (fr := 2 + (n + 1)) (frc := 2 + n) (pc := 148) (mc := 0) (ms := 0) rfl (by omega) dX9_spreads_148) ?_
  refine sm_aload_n (pc := 151) (n := 0) dX9_spreads_151 rfl ?_
  refine sm_aload_n (pc := 152) (n := 0) dX9_spreads_152 rfl ?_
  refine sm_iload (pc := 153) (n := 4) dX9_spreads_153 ?_
  refine sm_iload_n (pc := 155) (n := 3) dX9_spreads_155 rfl ?_
  refine sm_cV (pc := 156) (ci := 9) (n := 3) (mc := 0) (ms := 0) rfl m_X9_cellAt (cr_X9_214 (X := X_X9_spreads) (fr := 2 + (n + 1)) (frc := 2) (pc := 156) (mc := 0) (ms := 0) rfl (by omega) dX9_spreads_156) ?_
  refine sm_aload_n (pc := 159) (n := 0) dX9_spreads_159 rfl ?_
  refine sm_iload (pc := 160) (n := 7) dX9_spreads_160 ?_
  refine sm_iload_n (pc := 162) (n := 3) dX9_spreads_162 rfl ?_
  refine sm_cV (pc := 163) (ci := 9) (n := 3) (mc := 0) (ms := 0) rfl m_X9_cellAt (cr_X9_214 (X := X_X9_spreads) (fr := 2 + (n + 1)) (frc := 2) (pc := 163) (mc := 0) (ms := 0) rfl (by omega) dX9_spreads_163) ?_
  refine sm_cV (pc := 166) (ci := 9) (n := 3) (mc := 0) (ms := 0) rfl m_X9_swaps (cr_X9_231 (X := X_X9_spreads) (fr := 2 + (n + 1)) (frc := 1) (pc := 166) (mc := 0) (ms := 0) rfl (by omega) dX9_spreads_166) ?_
  refine sm_iinc (pc := 169) (n := 7) dX9_spreads_169 zc_i_1 ?_
  refine sm_goto (pc := 172) (tgt := 81) dX9_spreads_172 (by decide) ?_
  exact hr81
noncomputable def cX9_spreads_125 {d : Nat} (self : List zV → zH d → zP d → Bool) (P : zP d) (r81 : zK d) : zK d := (xald 0 (xald 1 (xild 2 (xild 3 (xild 4 (xpI 1 (xbin zadd (xild 7 (xild 4 (xjoin (bX9_spreads_148 self P r81) (fun j148 => (xcmp Nat.beq (xild 5 j148) (xild 5 (xun zneg j148))))))))))))))
set_option maxRecDepth 100000 in
set_option maxHeartbeats 4000000 in
theorem scX9_spreads_125 {d : Nat} [zGh] (n : Nat) (self : List zV → zH d → zP d → Bool) (hself : zMet X_X9_spreads yX9_spreads (2 + n) self) (P : zP d) (r81 : zK d) (hr81 : zSim X_X9_spreads (2 + (n + 1)) P 81 r81) : zSim X_X9_spreads (2 + (n + 1)) P 125 (cX9_spreads_125 self P r81) := by
  unfold cX9_spreads_125
  refine sm_aload_n (pc := 125) (n := 0) dX9_spreads_125 rfl ?_
  refine sm_aload_n (pc := 126) (n := 1) dX9_spreads_126 rfl ?_
  refine sm_iload_n (pc := 127) (n := 2) dX9_spreads_127 rfl ?_
  refine sm_iload_n (pc := 128) (n := 3) dX9_spreads_128 rfl ?_
  refine sm_iload (pc := 129) (n := 4) dX9_spreads_129 ?_
  refine sm_iconst (pc := 131) dX9_spreads_131 zc_i_1 ?_
  refine sm_iadd (pc := 132) dX9_spreads_132 ?_
  refine sm_iload (pc := 133) (n := 7) dX9_spreads_133 ?_
  refine sm_iload (pc := 135) (n := 4) dX9_spreads_135 ?_
  refine sm_join (pc := 137) (pc' := 148) (sbX9_spreads_148 n self hself P r81 hr81) (fun j148 hj148 => ?_)
  refine sm_icmp_ne (pc := 137) (tgt := 145) dX9_spreads_137 (by decide) ?_ ?_
  · skip
    refine sm_iload (pc := 145) (n := 5) dX9_spreads_145 ?_
    refine sm_ineg (pc := 147) dX9_spreads_147 ?_
    exact hj148
  · skip
    refine sm_iload (pc := 140) (n := 5) dX9_spreads_140 ?_
    refine sm_goto (pc := 142) (tgt := 148) dX9_spreads_142 (by decide) ?_
    exact hj148
noncomputable def lX9_spreads_81 {d : Nat} (self : List zV → zH d → zP d → Bool) (P : zP d) (r81 : zK d) : zK d := (xild 7 (xild 6 (xcmp tge (xvret P) (xald 0 (xald 0 (xild 4 (xild 3 (xcV 25 3 0 0 f_X9_cellAt (xald 0 (xild 7 (xild 3 (xcV 25 3 0 0 f_X9_cellAt (xcV 25 3 0 0 f_X9_swaps (xald 0 (xgfR 25 32 (xald 0 (xgfR 25 31 (xald 0 (xild 4 (xild 3 (xcV 25 3 0 0 f_X9_cellAt (xald1 0 (xild 4 (xast1 0 (fun v => v) (cX9_spreads_125 self P r81)))))))))))))))))))))))))
set_option maxRecDepth 100000 in
set_option maxHeartbeats 4000000 in
theorem slX9_spreads_81 {d : Nat} [zGh] (n : Nat) (self : List zV → zH d → zP d → Bool) (hself : zMet X_X9_spreads yX9_spreads (2 + n) self) (P : zP d) (r81 : zK d) (hr81 : zSim X_X9_spreads (2 + (n + 1)) P 81 r81) : zSim X_X9_spreads (2 + (n + 1)) P 81 (lX9_spreads_81 self P r81) := by
  unfold lX9_spreads_81
  refine sm_iload (pc := 81) (n := 7) dX9_spreads_81 ?_
  refine sm_iload (pc := 83) (n := 6) dX9_spreads_83 ?_
  refine sm_icmp_ge (pc := 85) (tgt := 175) dX9_spreads_85 (by decide) ?_ ?_
  · skip
    exact sm_vreturn (pc := 175) dX9_spreads_175 rfl
  · skip
    refine sm_aload_n (pc := 88) (n := 0) dX9_spreads_88 rfl ?_
    refine sm_aload_n (pc := 89) (n := 0) dX9_spreads_89 rfl ?_
    refine sm_iload (pc := 90) (n := 4) dX9_spreads_90 ?_
    refine sm_iload_n (pc := 92) (n := 3) dX9_spreads_92 rfl ?_
    refine sm_cV (pc := 93) (ci := 9) (n := 3) (mc := 0) (ms := 0) rfl m_X9_cellAt (cr_X9_214 (X := X_X9_spreads) (fr := 2 + (n + 1)) (frc := 2) (pc := 93) (mc := 0) (ms := 0) rfl (by omega) dX9_spreads_93) ?_
    refine sm_aload_n (pc := 96) (n := 0) dX9_spreads_96 rfl ?_
    refine sm_iload (pc := 97) (n := 7) dX9_spreads_97 ?_
    refine sm_iload_n (pc := 99) (n := 3) dX9_spreads_99 rfl ?_
    refine sm_cV (pc := 100) (ci := 9) (n := 3) (mc := 0) (ms := 0) rfl m_X9_cellAt (cr_X9_214 (X := X_X9_spreads) (fr := 2 + (n + 1)) (frc := 2) (pc := 100) (mc := 0) (ms := 0) rfl (by omega) dX9_spreads_100) ?_
    refine sm_cV (pc := 103) (ci := 9) (n := 3) (mc := 0) (ms := 0) rfl m_X9_swaps (cr_X9_231 (X := X_X9_spreads) (fr := 2 + (n + 1)) (frc := 1) (pc := 103) (mc := 0) (ms := 0) rfl (by omega) dX9_spreads_103) ?_
    refine sm_aload_n (pc := 106) (n := 0) dX9_spreads_106 rfl ?_
    refine gf_X9_81 (pc := 107) rfl dX9_spreads_107 ?_
    refine sm_aload_n (pc := 110) (n := 0) dX9_spreads_110 rfl ?_
    refine gf_X9_78 (pc := 111) rfl dX9_spreads_111 ?_
    refine sm_aload_n (pc := 114) (n := 0) dX9_spreads_114 rfl ?_
    refine sm_iload (pc := 115) (n := 4) dX9_spreads_115 ?_
    refine sm_iload_n (pc := 117) (n := 3) dX9_spreads_117 rfl ?_
    refine sm_cV (pc := 118) (ci := 9) (n := 3) (mc := 0) (ms := 0) rfl m_X9_cellAt (cr_X9_214 (X := X_X9_spreads) (fr := 2 + (n + 1)) (frc := 2) (pc := 118) (mc := 0) (ms := 0) rfl (by omega) dX9_spreads_118) ?_
    refine sm_iaload (pc := 121) dX9_spreads_121 ?_
    refine sm_iload (pc := 122) (n := 4) dX9_spreads_122 ?_
    refine sm_iastore (pc := 124) dX9_spreads_124 ?_
    exact scX9_spreads_125 n self hself P r81 hr81
noncomputable def bX9_spreads_57 {d : Nat} (self : List zV → zH d → zP d → Bool) (P : zP d) : zK d := (xild 4 (xild 6 (xcmp Nat.beq (xald 0 (xald 1 (xild 2 (xild 3 (xpI 1 (xbin zadd (xpI 0 (xild 5 (xcV 25 6 0 0 self (xvret P)))))))))) (xild 4 (xist 7 (xloop (fun r81 => (lX9_spreads_81 self P r81)) 100000))))))
set_option maxRecDepth 100000 in
set_option maxHeartbeats 4000000 in
theorem sbX9_spreads_57 {d : Nat} [zGh] (n : Nat) (self : List zV → zH d → zP d → Bool) (hself : zMet X_X9_spreads yX9_spreads (2 + n) self) (P : zP d) : zSim X_X9_spreads (2 + (n + 1)) P 57 (bX9_spreads_57 self P) := by
  unfold bX9_spreads_57
  refine sm_iload (pc := 57) (n := 4) dX9_spreads_57 ?_
  refine sm_iload (pc := 59) (n := 6) dX9_spreads_59 ?_
  refine sm_icmp_ne (pc := 61) (tgt := 77) dX9_spreads_61 (by decide) ?_ ?_
  · skip
    refine sm_iload (pc := 77) (n := 4) dX9_spreads_77 ?_
    refine sm_istore (pc := 79) (n := 7) dX9_spreads_79 ?_
    exact sm_loop (fun r81 hr81 => slX9_spreads_81 n self hself P r81 hr81) _
  · skip
    refine sm_aload_n (pc := 64) (n := 0) dX9_spreads_64 rfl ?_
    refine sm_aload_n (pc := 65) (n := 1) dX9_spreads_65 rfl ?_
    refine sm_iload_n (pc := 66) (n := 2) dX9_spreads_66 rfl ?_
    refine sm_iload_n (pc := 67) (n := 3) dX9_spreads_67 rfl ?_
    refine sm_iconst (pc := 68) dX9_spreads_68 zc_i_1 ?_
    refine sm_iadd (pc := 69) dX9_spreads_69 ?_
    refine sm_iconst (pc := 70) dX9_spreads_70 zc_i_0 ?_
    refine sm_iload (pc := 71) (n := 5) dX9_spreads_71 ?_
    refine sm_cV (pc := 73) (ci := 9) (n := 6) (mc := 0) (ms := 0) rfl hself (cr_X9_227 (X := X_X9_spreads) (fr := 2 + (n + 1)) (frc := 2 + n) (pc := 73) (mc := 0) (ms := 0) rfl (by omega) dX9_spreads_73) ?_
    exact sm_vreturn (pc := 76) dX9_spreads_76 rfl
noncomputable def lX9_spreads_30 {d : Nat} (self : List zV → zH d → zP d → Bool) (P : zP d) (r30 : zK d) : zK d := (xild 6 (xpI 6 (xjoin (bX9_spreads_57 self P) (fun j57 => (xcmp tge j57 (xald 0 (xald 0 (xgfI 25 25 (xild 6 (xcV 25 3 0 0 f_X9_partOf (xild 3 (xcmp tle j57 (xinc 6 1 r30)))))))))))))
set_option maxRecDepth 100000 in
set_option maxHeartbeats 4000000 in
theorem slX9_spreads_30 {d : Nat} [zGh] (n : Nat) (self : List zV → zH d → zP d → Bool) (hself : zMet X_X9_spreads yX9_spreads (2 + n) self) (P : zP d) (r30 : zK d) (hr30 : zSim X_X9_spreads (2 + (n + 1)) P 30 r30) : zSim X_X9_spreads (2 + (n + 1)) P 30 (lX9_spreads_30 self P r30) := by
  unfold lX9_spreads_30
  refine sm_iload (pc := 30) (n := 6) dX9_spreads_30 ?_
  refine sm_bipush (pc := 32) dX9_spreads_32 zc_b_6 ?_
  refine sm_join (pc := 34) (pc' := 57) (sbX9_spreads_57 n self hself P) (fun j57 hj57 => ?_)
  refine sm_icmp_ge (pc := 34) (tgt := 57) dX9_spreads_34 (by decide) ?_ ?_
  · skip
    exact hj57
  · skip
    refine sm_aload_n (pc := 37) (n := 0) dX9_spreads_37 rfl ?_
    refine sm_aload_n (pc := 38) (n := 0) dX9_spreads_38 rfl ?_
    refine gf_X9_205 (pc := 39) rfl dX9_spreads_39 ?_
    refine sm_iload (pc := 42) (n := 6) dX9_spreads_42 ?_
    refine sm_cV (pc := 44) (ci := 9) (n := 3) (mc := 0) (ms := 0) rfl m_X9_partOf (cr_X9_175 (X := X_X9_spreads) (fr := 2 + (n + 1)) (frc := 1) (pc := 44) (mc := 0) (ms := 0) rfl (by omega) dX9_spreads_44) ?_
    refine sm_iload_n (pc := 47) (n := 3) dX9_spreads_47 rfl ?_
    refine sm_icmp_le (pc := 48) (tgt := 57) dX9_spreads_48 (by decide) ?_ ?_
    · skip
      exact hj57
    · skip
      refine sm_iinc (pc := 51) (n := 6) dX9_spreads_51 zc_i_1 ?_
      refine sm_goto (pc := 54) (tgt := 30) dX9_spreads_54 (by decide) ?_
      exact hr30
noncomputable def b_X9_spreads {d : Nat} (self : List zV → zH d → zP d → Bool) (P : zP d) : zK d := (xild 3 (xald 0 (xald 0 (xgfI 25 25 (xpI 0 (xcV 25 3 0 0 f_X9_partOf (xcmp Nat.beq (xald 1 (xild 2 (xald 0 (xcV 25 1 0 0 f_X9_placeNow (xbin zadd (xdup2 (xald1 0 (xild 5 (xbin zadd (xast1 0 (fun v => v) (xvret P))))))))))) (xpI 0 (xist 6 (xloop (fun r30 => (lX9_spreads_30 self P r30)) 100000))))))))))
set_option maxRecDepth 100000 in
set_option maxHeartbeats 4000000 in
theorem s_X9_spreads {d : Nat} [zGh] (n : Nat) (self : List zV → zH d → zP d → Bool) (hself : zMet X_X9_spreads yX9_spreads (2 + n) self) (P : zP d) : zSim X_X9_spreads (2 + (n + 1)) P 0 (b_X9_spreads self P) := by
  unfold b_X9_spreads
  refine sm_iload_n (pc := 0) (n := 3) dX9_spreads_0 rfl ?_
  refine sm_aload_n (pc := 1) (n := 0) dX9_spreads_1 rfl ?_
  refine sm_aload_n (pc := 2) (n := 0) dX9_spreads_2 rfl ?_
  refine gf_X9_205 (pc := 3) rfl dX9_spreads_3 ?_
  refine sm_iconst (pc := 6) dX9_spreads_6 zc_i_0 ?_
  refine sm_cV (pc := 7) (ci := 9) (n := 3) (mc := 0) (ms := 0) rfl m_X9_partOf (cr_X9_175 (X := X_X9_spreads) (fr := 2 + (n + 1)) (frc := 1) (pc := 7) (mc := 0) (ms := 0) rfl (by omega) dX9_spreads_7) ?_
  refine sm_icmp_ne (pc := 10) (tgt := 27) dX9_spreads_10 (by decide) ?_ ?_
  · skip
    refine sm_iconst (pc := 27) dX9_spreads_27 zc_i_0 ?_
    refine sm_istore (pc := 28) (n := 6) dX9_spreads_28 ?_
    exact sm_loop (fun r30 hr30 => slX9_spreads_30 n self hself P r30 hr30) _
  · skip
    refine sm_aload_n (pc := 13) (n := 1) dX9_spreads_13 rfl ?_
    refine sm_iload_n (pc := 14) (n := 2) dX9_spreads_14 rfl ?_
    refine sm_aload_n (pc := 15) (n := 0) dX9_spreads_15 rfl ?_
    refine sm_cV (pc := 16) (ci := 9) (n := 1) (mc := 0) (ms := 0) rfl m_X9_placeNow (cr_X9_223 (X := X_X9_spreads) (fr := 2 + (n + 1)) (frc := 1) (pc := 16) (mc := 0) (ms := 0) rfl (by omega) dX9_spreads_16) ?_
    refine sm_iadd (pc := 19) dX9_spreads_19 ?_
    refine sm_dup2 (pc := 20) dX9_spreads_20 ?_
    refine sm_iaload (pc := 21) dX9_spreads_21 ?_
    refine sm_iload (pc := 22) (n := 5) dX9_spreads_22 ?_
    refine sm_iadd (pc := 24) dX9_spreads_24 ?_
    refine sm_iastore (pc := 25) dX9_spreads_25 ?_
    exact sm_vreturn (pc := 26) dX9_spreads_26 rfl
noncomputable def f_X9_spreads {d : Nat} : List zV → zH d → zP d → Bool := zrec 8 b_X9_spreads 14
theorem m_X9_spreads {d : Nat} : zMet (d := d) X_X9_spreads yX9_spreads 16 f_X9_spreads := zmet_rec (X := X_X9_spreads) (fr := 2) (by decide) rfl rfl (fun n f hf _ P => s_X9_spreads n f hf P) 14

abbrev X_X9_sumsOf : zM := (RX9, cX9_sumsOf, 4, none, "sumsOf")
noncomputable def cX9_sumsOf_75 {d : Nat} (P : zP d) (r36 : zK d) : zK d := (xast1 0 (fun v => v) (xinc 3 1 r36))
set_option maxRecDepth 100000 in
set_option maxHeartbeats 4000000 in
theorem scX9_sumsOf_75 {d : Nat} [zGh] (P : zP d) (r36 : zK d) (hr36 : zSim X_X9_sumsOf 17 P 36 r36) : zSim X_X9_sumsOf 17 P 75 (cX9_sumsOf_75 P r36) := by
  unfold cX9_sumsOf_75
  refine sm_iastore (pc := 75) dX9_sumsOf_75 ?_
  refine sm_iinc (pc := 76) (n := 3) dX9_sumsOf_76 zc_i_1 ?_
  refine sm_goto (pc := 79) (tgt := 36) dX9_sumsOf_79 (by decide) ?_
  exact hr36
noncomputable def lX9_sumsOf_36 {d : Nat} (P : zP d) (r21 : zK d) (r36 : zK d) : zK d := (xild 3 (xald 0 (xgfI 25 0 (xcmp tge (xald 0 (xald 1 (xpI 720 (xild 2 (xbin zmul (xpI 0 (xpI 0 (xpI 1 (xcV 25 6 0 0 f_X9_spreads (xinc 2 1 r21)))))))))) (xald 0 (xgfR 25 31 (xild 3 (xald 0 (xgfR 25 33 (xald 0 (xgfR 25 22 (xpI 6 (xald 0 (xgfR 25 20 (xald 0 (xgfI 25 25 (xald1 0 (xild 2 (xbin zadd (xbin zmul (xild 3 (xbin zadd (xald1 0 (xald1 0 (cX9_sumsOf_75 P r36)))))))))))))))))))))))))
set_option maxRecDepth 100000 in
set_option maxHeartbeats 4000000 in
theorem slX9_sumsOf_36 {d : Nat} [zGh] (P : zP d) (r21 : zK d) (r36 : zK d) (hr21 : zSim X_X9_sumsOf 17 P 21 r21) (hr36 : zSim X_X9_sumsOf 17 P 36 r36) : zSim X_X9_sumsOf 17 P 36 (lX9_sumsOf_36 P r21 r36) := by
  unfold lX9_sumsOf_36
  refine sm_iload_n (pc := 36) (n := 3) dX9_sumsOf_36 rfl ?_
  refine sm_aload_n (pc := 37) (n := 0) dX9_sumsOf_37 rfl ?_
  refine gf_X9_169 (pc := 38) rfl dX9_sumsOf_38 ?_
  refine sm_icmp_ge (pc := 41) (tgt := 82) dX9_sumsOf_41 (by decide) ?_ ?_
  · skip
    refine sm_aload_n (pc := 82) (n := 0) dX9_sumsOf_82 rfl ?_
    refine sm_aload_n (pc := 83) (n := 1) dX9_sumsOf_83 rfl ?_
    refine sm_sipush (pc := 84) dX9_sumsOf_84 zc_s_720 ?_
    refine sm_iload_n (pc := 87) (n := 2) dX9_sumsOf_87 rfl ?_
    refine sm_imul (pc := 88) dX9_sumsOf_88 ?_
    refine sm_iconst (pc := 89) dX9_sumsOf_89 zc_i_0 ?_
    refine sm_iconst (pc := 90) dX9_sumsOf_90 zc_i_0 ?_
    refine sm_iconst (pc := 91) dX9_sumsOf_91 zc_i_1 ?_
    refine sm_cV (pc := 92) (ci := 9) (n := 6) (mc := 0) (ms := 0) rfl m_X9_spreads (cr_X9_227 (X := X_X9_sumsOf) (fr := 17) (frc := 16) (pc := 92) (mc := 0) (ms := 0) rfl (by decide) dX9_sumsOf_92) ?_
    refine sm_iinc (pc := 95) (n := 2) dX9_sumsOf_95 zc_i_1 ?_
    refine sm_goto (pc := 98) (tgt := 21) dX9_sumsOf_98 (by decide) ?_
    exact hr21
  · skip
    refine sm_aload_n (pc := 44) (n := 0) dX9_sumsOf_44 rfl ?_
    refine gf_X9_78 (pc := 45) rfl dX9_sumsOf_45 ?_
    refine sm_iload_n (pc := 48) (n := 3) dX9_sumsOf_48 rfl ?_
    refine sm_aload_n (pc := 49) (n := 0) dX9_sumsOf_49 rfl ?_
    refine gf_X9_84 (pc := 50) rfl dX9_sumsOf_50 ?_
    refine sm_aload_n (pc := 53) (n := 0) dX9_sumsOf_53 rfl ?_
    refine gf_X9_59 (pc := 54) rfl dX9_sumsOf_54 ?_
    refine sm_bipush (pc := 57) dX9_sumsOf_57 zc_b_6 ?_
    refine sm_aload_n (pc := 59) (n := 0) dX9_sumsOf_59 rfl ?_
    refine gf_X9_53 (pc := 60) rfl dX9_sumsOf_60 ?_
    refine sm_aload_n (pc := 63) (n := 0) dX9_sumsOf_63 rfl ?_
    refine gf_X9_205 (pc := 64) rfl dX9_sumsOf_64 ?_
    refine sm_iaload (pc := 67) dX9_sumsOf_67 ?_
    refine sm_iload_n (pc := 68) (n := 2) dX9_sumsOf_68 rfl ?_
    refine sm_iadd (pc := 69) dX9_sumsOf_69 ?_
    refine sm_imul (pc := 70) dX9_sumsOf_70 ?_
    refine sm_iload_n (pc := 71) (n := 3) dX9_sumsOf_71 rfl ?_
    refine sm_iadd (pc := 72) dX9_sumsOf_72 ?_
    refine sm_iaload (pc := 73) dX9_sumsOf_73 ?_
    refine sm_iaload (pc := 74) dX9_sumsOf_74 ?_
    exact scX9_sumsOf_75 P r36 hr36
noncomputable def lX9_sumsOf_21 {d : Nat} (P : zP d) (r21 : zK d) : zK d := (xild 2 (xald 0 (xgfR 25 21 (xald 0 (xgfI 25 25 (xald1 0 (xcmp tge (xvret P) (xpI 0 (xist 3 (xloop (fun r36 => (lX9_sumsOf_36 P r21 r36)) 100000))))))))))
set_option maxRecDepth 100000 in
set_option maxHeartbeats 4000000 in
theorem slX9_sumsOf_21 {d : Nat} [zGh] (P : zP d) (r21 : zK d) (hr21 : zSim X_X9_sumsOf 17 P 21 r21) : zSim X_X9_sumsOf 17 P 21 (lX9_sumsOf_21 P r21) := by
  unfold lX9_sumsOf_21
  refine sm_iload_n (pc := 21) (n := 2) dX9_sumsOf_21 rfl ?_
  refine sm_aload_n (pc := 22) (n := 0) dX9_sumsOf_22 rfl ?_
  refine gf_X9_56 (pc := 23) rfl dX9_sumsOf_23 ?_
  refine sm_aload_n (pc := 26) (n := 0) dX9_sumsOf_26 rfl ?_
  refine gf_X9_205 (pc := 27) rfl dX9_sumsOf_27 ?_
  refine sm_iaload (pc := 30) dX9_sumsOf_30 ?_
  refine sm_icmp_ge (pc := 31) (tgt := 101) dX9_sumsOf_31 (by decide) ?_ ?_
  · skip
    exact sm_vreturn (pc := 101) dX9_sumsOf_101 rfl
  · skip
    refine sm_iconst (pc := 34) dX9_sumsOf_34 zc_i_0 ?_
    refine sm_istore_n (pc := 35) (n := 3) dX9_sumsOf_35 rfl ?_
    exact sm_loop (fun r36 hr36 => slX9_sumsOf_36 P r21 r36 hr21 hr36) _
noncomputable def lX9_sumsOf_2 {d : Nat} (P : zP d) (r2 : zK d) : zK d := (xild 2 (xpI 12000 (xcmp tge (xpI 0 (xist 2 (xloop (fun r21 => (lX9_sumsOf_21 P r21)) 100000))) (xald 1 (xild 2 (xpI 0 (xast1 0 (fun v => v) (xinc 2 1 r2))))))))
set_option maxRecDepth 100000 in
set_option maxHeartbeats 4000000 in
theorem slX9_sumsOf_2 {d : Nat} [zGh] (P : zP d) (r2 : zK d) (hr2 : zSim X_X9_sumsOf 17 P 2 r2) : zSim X_X9_sumsOf 17 P 2 (lX9_sumsOf_2 P r2) := by
  unfold lX9_sumsOf_2
  refine sm_iload_n (pc := 2) (n := 2) dX9_sumsOf_2 rfl ?_
  refine sm_sipush (pc := 3) dX9_sumsOf_3 zc_s_12000 ?_
  refine sm_icmp_ge (pc := 6) (tgt := 19) dX9_sumsOf_6 (by decide) ?_ ?_
  · skip
    refine sm_iconst (pc := 19) dX9_sumsOf_19 zc_i_0 ?_
    refine sm_istore_n (pc := 20) (n := 2) dX9_sumsOf_20 rfl ?_
    exact sm_loop (fun r21 hr21 => slX9_sumsOf_21 P r21 hr21) _
  · skip
    refine sm_aload_n (pc := 9) (n := 1) dX9_sumsOf_9 rfl ?_
    refine sm_iload_n (pc := 10) (n := 2) dX9_sumsOf_10 rfl ?_
    refine sm_iconst (pc := 11) dX9_sumsOf_11 zc_i_0 ?_
    refine sm_iastore (pc := 12) dX9_sumsOf_12 ?_
    refine sm_iinc (pc := 13) (n := 2) dX9_sumsOf_13 zc_i_1 ?_
    refine sm_goto (pc := 16) (tgt := 2) dX9_sumsOf_16 (by decide) ?_
    exact hr2
noncomputable def b_X9_sumsOf {d : Nat} (P : zP d) : zK d := (xpI 0 (xist 2 (xloop (fun r2 => (lX9_sumsOf_2 P r2)) 100000)))
set_option maxRecDepth 100000 in
set_option maxHeartbeats 4000000 in
theorem s_X9_sumsOf {d : Nat} [zGh] (P : zP d) : zSim X_X9_sumsOf 17 P 0 (b_X9_sumsOf P) := by
  unfold b_X9_sumsOf
  refine sm_iconst (pc := 0) dX9_sumsOf_0 zc_i_0 ?_
  refine sm_istore_n (pc := 1) (n := 2) dX9_sumsOf_1 rfl ?_
  exact sm_loop (fun r2 hr2 => slX9_sumsOf_2 P r2 hr2) _
noncomputable def f_X9_sumsOf {d : Nat} : List zV → zH d → zP d → Bool := zfn 4 b_X9_sumsOf
theorem m_X9_sumsOf {d : Nat} : zMet (d := d) X_X9_sumsOf yX9_sumsOf 17 f_X9_sumsOf := zmet_mk (X := X_X9_sumsOf) (by decide) rfl rfl s_X9_sumsOf
