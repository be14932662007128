/-! by the second program -/
noncomputable def bX4_fillWaysa_210 {d : Nat} (self : List zV → zH d → zP d → Bool) (P : zP d) (r87 : zK d) : zK d := (xincR 5 1 r87)
set_option maxRecDepth 100000 in
set_option maxHeartbeats 4000000 in
theorem sbX4_fillWaysa_210 {d : Nat} [zGh] (n : Nat) (self : List zV → zH d → zP d → Bool) (hself : zMet X_X4_fillWays yX4_fillWays (1 + n) self) (P : zP d) (r87 : zK d) (hr87 : zSimJ 1 X_X4_fillWays (1 + (n + 1)) P 87 r87) : zSim X_X4_fillWays (1 + (n + 1)) P 210 (bX4_fillWaysa_210 self P r87) := by
  unfold bX4_fillWaysa_210
  refine sm_iincR (pc := 210) (n := 5) dX4_fillWays_210 zc_i_1 ?_
  refine sm_goto (pc := 213) (tgt := 87) dX4_fillWays_213 (by decide) ?_
  exact hr87.use
noncomputable def bX4_fillWaysa_192 {d : Nat} (self : List zV → zH d → zP d → Bool) (P : zP d) (j210 : zK d) : zK d := (xcV 20 4 0 0 self (xald 0 (xgfR 20 15 (xild 2 (xdup2 (xalQ 0 (xpI 1 (xild 5 (xbin zshl (xpI 4294967295 (xbin zxor (xbin zandR (xasQ 0 (fun v => v) j210)))))))))))))
set_option maxRecDepth 100000 in
set_option maxHeartbeats 4000000 in
theorem sbX4_fillWaysa_192 {d : Nat} [zGh] (n : Nat) (self : List zV → zH d → zP d → Bool) (hself : zMet X_X4_fillWays yX4_fillWays (1 + n) self) (P : zP d) (j210 : zK d) (hj210 : zSimJ 1 X_X4_fillWays (1 + (n + 1)) P 210 j210) : zSim X_X4_fillWays (1 + (n + 1)) P 192 (bX4_fillWaysa_192 self P j210) := by
  unfold bX4_fillWaysa_192
  refine sm_cV (pc := 192) (ci := 4) (n := 4) (mc := 0) (ms := 0) rfl hself (cr_X4_76 (X := X_X4_fillWays) (fr := 1 + (n + 1)) (frc := 1 + n) (pc := 192) (mc := 0) (ms := 0) rfl (by omega) dX4_fillWays_192) ?_
  refine sm_aload_n (pc := 195) (n := 0) dX4_fillWays_195 rfl ?_
  refine gf_X4_45 (pc := 196) rfl dX4_fillWays_196 ?_
  refine sm_iload_n (pc := 199) (n := 2) dX4_fillWays_199 rfl ?_
  refine sm_dup2 (pc := 200) dX4_fillWays_200 ?_
  refine sm_ialoadQ (pc := 201) dX4_fillWays_201 ?_
  refine sm_iconst (pc := 202) dX4_fillWays_202 zc_i_1 ?_
  refine sm_iload (pc := 203) (n := 5) dX4_fillWays_203 ?_
  refine sm_ishl (pc := 205) dX4_fillWays_205 ?_
  refine sm_iconst (pc := 206) dX4_fillWays_206 zc_i_m1 ?_
  refine sm_ixor (pc := 207) dX4_fillWays_207 ?_
  refine sm_iandR (pc := 208) dX4_fillWays_208 ?_
  refine sm_iastoreQ (pc := 209) dX4_fillWays_209 ?_
  exact hj210.use
noncomputable def bX4_fillWaysa_179 {d : Nat} (self : List zV → zH d → zP d → Bool) (P : zP d) (j210 : zK d) : zK d := (xild 6 (xpI 2 (xbinN zremR (xjoin (bX4_fillWaysa_192 self P j210) (fun j192 => (xif0S teqR rlEq rhEq rlNe rhNe (xild 3 j192) (xild 3 (xun zneg j192))))))))
set_option maxRecDepth 100000 in
set_option maxHeartbeats 4000000 in
theorem sbX4_fillWaysa_179 {d : Nat} [zGh] (n : Nat) (self : List zV → zH d → zP d → Bool) (hself : zMet X_X4_fillWays yX4_fillWays (1 + n) self) (P : zP d) (j210 : zK d) (hj210 : zSimJ 1 X_X4_fillWays (1 + (n + 1)) P 210 j210) : zSim X_X4_fillWays (1 + (n + 1)) P 179 (bX4_fillWaysa_179 self P j210) := by
  unfold bX4_fillWaysa_179
  refine sm_iload (pc := 179) (n := 6) dX4_fillWays_179 ?_
  refine sm_iconst (pc := 181) dX4_fillWays_181 zc_i_2 ?_
  refine sm_iremR (pc := 182) dX4_fillWays_182 ?_
  refine sm_joinJ (pc := 183) (pc' := 192) (j := 1) (fun G0 hG0 => @sbX4_fillWaysa_192 d G0 n self hself P j210 (hj210.mv hG0 (by decide))) (fun j192 hj192 => ?_)
  refine sm_ifS_ne (pc := 183) (tgt := 190) dX4_fillWays_183 (by decide) ?_ ?_
  · skip
    refine sm_iload_n (pc := 190) (n := 3) dX4_fillWays_190 rfl ?_
    refine sm_ineg (pc := 191) dX4_fillWays_191 ?_
    exact hj192.use
  · skip
    refine sm_iload_n (pc := 186) (n := 3) dX4_fillWays_186 rfl ?_
    refine sm_goto (pc := 187) (tgt := 192) dX4_fillWays_187 (by decide) ?_
    exact hj192.use
noncomputable def bX4_fillWaysa_167 {d : Nat} (self : List zV → zH d → zP d → Bool) (P : zP d) (j210 : zK d) : zK d := (xild 4 (xjoin (bX4_fillWaysa_179 self P j210) (fun j179 => (xif0S teqR rlEq rhEq rlNe rhNe (xild 2 (xpI 1 (xbin zaddR j179))) (xpI 0 j179)))))
set_option maxRecDepth 100000 in
set_option maxHeartbeats 4000000 in
theorem sbX4_fillWaysa_167 {d : Nat} [zGh] (n : Nat) (self : List zV → zH d → zP d → Bool) (hself : zMet X_X4_fillWays yX4_fillWays (1 + n) self) (P : zP d) (j210 : zK d) (hj210 : zSimJ 1 X_X4_fillWays (1 + (n + 1)) P 210 j210) : zSim X_X4_fillWays (1 + (n + 1)) P 167 (bX4_fillWaysa_167 self P j210) := by
  unfold bX4_fillWaysa_167
  refine sm_iload (pc := 167) (n := 4) dX4_fillWays_167 ?_
  refine sm_joinJ (pc := 169) (pc' := 179) (j := 1) (fun G0 hG0 => @sbX4_fillWaysa_179 d G0 n self hself P j210 (hj210.mv hG0 (by decide))) (fun j179 hj179 => ?_)
  refine sm_ifS_eq (pc := 169) (tgt := 176) dX4_fillWays_169 (by decide) ?_ ?_
  · skip
    refine sm_iload_n (pc := 176) (n := 2) dX4_fillWays_176 rfl ?_
    refine sm_iconst (pc := 177) dX4_fillWays_177 zc_i_1 ?_
    refine sm_iaddR (pc := 178) dX4_fillWays_178 ?_
    exact hj179.use
  · skip
    refine sm_iconst (pc := 172) dX4_fillWays_172 zc_i_0 ?_
    refine sm_goto (pc := 173) (tgt := 179) dX4_fillWays_173 (by decide) ?_
    exact hj179.use
noncomputable def cX4_fillWaysa_162 {d : Nat} (self : List zV → zH d → zP d → Bool) (P : zP d) (j167 : zK d) : zK d := (xbin zaddR j167)
set_option maxRecDepth 100000 in
set_option maxHeartbeats 4000000 in
theorem scX4_fillWaysa_162 {d : Nat} [zGh] (n : Nat) (self : List zV → zH d → zP d → Bool) (hself : zMet X_X4_fillWays yX4_fillWays (1 + n) self) (P : zP d) (j167 : zK d) (hj167 : zSimJ 1 X_X4_fillWays (1 + (n + 1)) P 167 j167) : zSim X_X4_fillWays (1 + (n + 1)) P 162 (cX4_fillWaysa_162 self P j167) := by
  unfold cX4_fillWaysa_162
  refine sm_iaddR (pc := 162) dX4_fillWays_162 ?_
  refine sm_goto (pc := 163) (tgt := 167) dX4_fillWays_163 (by decide) ?_
  exact hj167.use
noncomputable def cX4_fillWaysa_127 {d : Nat} (self : List zV → zH d → zP d → Bool) (P : zP d) (j210 : zK d) : zK d := (xgfR 20 15 (xild 2 (xdup2 (xalQ 0 (xpI 1 (xild 5 (xbin zshl (xbin zor (xasQ 0 (fun v => v) (xald 0 (xgfR 20 14 (xald 0 (xgfR 20 4 (xild 1 (xalQ 0 (xild 2 (xbin zaddR (xild 5 (xasQ 0 (fun v => v) (xald 0 (xild 4 (xjoin (bX4_fillWaysa_167 self P j210) (fun j167 => (xif0S teqR rlEq rhEq rlNe rhNe (xild 1 j167) (xild 1 (xpI 1 (cX4_fillWaysa_162 self P j167)))))))))))))))))))))))))))
set_option maxRecDepth 100000 in
set_option maxHeartbeats 4000000 in
theorem scX4_fillWaysa_127 {d : Nat} [zGh] (n : Nat) (self : List zV → zH d → zP d → Bool) (hself : zMet X_X4_fillWays yX4_fillWays (1 + n) self) (P : zP d) (j210 : zK d) (hj210 : zSimJ 1 X_X4_fillWays (1 + (n + 1)) P 210 j210) : zSim X_X4_fillWays (1 + (n + 1)) P 127 (cX4_fillWaysa_127 self P j210) := by
  unfold cX4_fillWaysa_127
  refine gf_X4_45 (pc := 127) rfl dX4_fillWays_127 ?_
  refine sm_iload_n (pc := 130) (n := 2) dX4_fillWays_130 rfl ?_
  refine sm_dup2 (pc := 131) dX4_fillWays_131 ?_
  refine sm_ialoadQ (pc := 132) dX4_fillWays_132 ?_
  refine sm_iconst (pc := 133) dX4_fillWays_133 zc_i_1 ?_
  refine sm_iload (pc := 134) (n := 5) dX4_fillWays_134 ?_
  refine sm_ishl (pc := 136) dX4_fillWays_136 ?_
  refine sm_ior (pc := 137) dX4_fillWays_137 ?_
  refine sm_iastoreQ (pc := 138) dX4_fillWays_138 ?_
  refine sm_aload_n (pc := 139) (n := 0) dX4_fillWays_139 rfl ?_
  refine gf_X4_42 (pc := 140) rfl dX4_fillWays_140 ?_
  refine sm_aload_n (pc := 143) (n := 0) dX4_fillWays_143 rfl ?_
  refine gf_X4_29 (pc := 144) rfl dX4_fillWays_144 ?_
  refine sm_iload_n (pc := 147) (n := 1) dX4_fillWays_147 rfl ?_
  refine sm_ialoadQ (pc := 148) dX4_fillWays_148 ?_
  refine sm_iload_n (pc := 149) (n := 2) dX4_fillWays_149 rfl ?_
  refine sm_iaddR (pc := 150) dX4_fillWays_150 ?_
  refine sm_iload (pc := 151) (n := 5) dX4_fillWays_151 ?_
  refine sm_iastoreQ (pc := 153) dX4_fillWays_153 ?_
  refine sm_aload_n (pc := 154) (n := 0) dX4_fillWays_154 rfl ?_
  refine sm_iload (pc := 155) (n := 4) dX4_fillWays_155 ?_
  refine sm_joinJ (pc := 157) (pc' := 167) (j := 1) (fun G0 hG0 => @sbX4_fillWaysa_167 d G0 n self hself P j210 (hj210.mv hG0 (by decide))) (fun j167 hj167 => ?_)
  refine sm_ifS_eq (pc := 157) (tgt := 166) dX4_fillWays_157 (by decide) ?_ ?_
  · skip
    refine sm_iload_n (pc := 166) (n := 1) dX4_fillWays_166 rfl ?_
    exact hj167.use
  · skip
    refine sm_iload_n (pc := 160) (n := 1) dX4_fillWays_160 rfl ?_
    refine sm_iconst (pc := 161) dX4_fillWays_161 zc_i_1 ?_
    exact scX4_fillWaysa_162 n self hself P j167 hj167
noncomputable def lX4_fillWaysa_87 {d : Nat} (self : List zV → zH d → zP d → Bool) (P : zP d) (r87 : zK d) : zK d := (xild 5 (xald 0 (xgfR 20 3 (xild 2 (xalQ 0 (xcmpS tgeR rlGe rhS rlS rhLt (xvret P) (xald 0 (xgfR 20 15 (xild 2 (xalQ 0 (xild 5 (xbin zshr (xpI 1 (xbin zandR (xjoin (bX4_fillWaysa_210 self P r87) (fun j210 => (xif0S teqR rlEq rhEq rlNe rhNe (xald 0 (xgfR 20 15 (xild 2 (xalQ 0 (xild 5 (xbin zshr (xcS 1 0 0 f_J6_bitCount_0f7a4 (xist 6 (xald 0 (cX4_fillWaysa_127 self P j210)))))))))) j210)))))))))))))))))
set_option maxRecDepth 100000 in
set_option maxHeartbeats 4000000 in
theorem slX4_fillWaysa_87 {d : Nat} [zGh] (n : Nat) (self : List zV → zH d → zP d → Bool) (hself : zMet X_X4_fillWays yX4_fillWays (1 + n) self) (P : zP d) (r87 : zK d) (hr87 : zSimJ 1 X_X4_fillWays (1 + (n + 1)) P 87 r87) : zSim X_X4_fillWays (1 + (n + 1)) P 87 (lX4_fillWaysa_87 self P r87) := by
  unfold lX4_fillWaysa_87
  refine sm_iload (pc := 87) (n := 5) dX4_fillWays_87 ?_
  refine sm_aload_n (pc := 89) (n := 0) dX4_fillWays_89 rfl ?_
  refine gf_X4_26 (pc := 90) rfl dX4_fillWays_90 ?_
  refine sm_iload_n (pc := 93) (n := 2) dX4_fillWays_93 rfl ?_
  refine sm_ialoadQ (pc := 94) dX4_fillWays_94 ?_
  refine sm_icmpS_ge (pc := 95) (tgt := 216) dX4_fillWays_95 (by decide) ?_ ?_
  · skip
    exact sm_vreturn (pc := 216) dX4_fillWays_216 rfl
  · skip
    refine sm_aload_n (pc := 98) (n := 0) dX4_fillWays_98 rfl ?_
    refine gf_X4_45 (pc := 99) rfl dX4_fillWays_99 ?_
    refine sm_iload_n (pc := 102) (n := 2) dX4_fillWays_102 rfl ?_
    refine sm_ialoadQ (pc := 103) dX4_fillWays_103 ?_
    refine sm_iload (pc := 104) (n := 5) dX4_fillWays_104 ?_
    refine sm_ishr (pc := 106) dX4_fillWays_106 ?_
    refine sm_iconst (pc := 107) dX4_fillWays_107 zc_i_1 ?_
    refine sm_iandR (pc := 108) dX4_fillWays_108 ?_
    refine sm_joinJ (pc := 109) (pc' := 210) (j := 1) (fun G0 hG0 => @sbX4_fillWaysa_210 d G0 n self hself P r87 (hr87.mv hG0 (by decide))) (fun j210 hj210 => ?_)
    refine sm_ifS_ne (pc := 109) (tgt := 210) dX4_fillWays_109 (by decide) ?_ ?_
    · skip
      exact hj210.use
    · skip
      refine sm_aload_n (pc := 112) (n := 0) dX4_fillWays_112 rfl ?_
      refine gf_X4_45 (pc := 113) rfl dX4_fillWays_113 ?_
      refine sm_iload_n (pc := 116) (n := 2) dX4_fillWays_116 rfl ?_
      refine sm_ialoadQ (pc := 117) dX4_fillWays_117 ?_
      refine sm_iload (pc := 118) (n := 5) dX4_fillWays_118 ?_
      refine sm_ishr (pc := 120) dX4_fillWays_120 ?_
      refine sm_cS (pc := 121) (n := 1) (mc := 0) (ms := 0) m_J6_bitCount_0f7a4 (cr_X4_113 (X := X_X4_fillWays) (fr := 1 + (n + 1)) (frc := 1) (pc := 121) (mc := 0) (ms := 0) rfl (by omega) dX4_fillWays_121) ?_
      refine sm_istore (pc := 124) (n := 6) dX4_fillWays_124 ?_
      refine sm_aload_n (pc := 126) (n := 0) dX4_fillWays_126 rfl ?_
      exact scX4_fillWaysa_127 n self hself P j210 hj210
noncomputable def bX4_fillWaysa_82 {d : Nat} (self : List zV → zH d → zP d → Bool) (P : zP d) : zK d := (xist 4 (xpI 0 (xist 5 (xloop (fun r87 => (lX4_fillWaysa_87 self P r87)) 100000))))
set_option maxRecDepth 100000 in
set_option maxHeartbeats 4000000 in
theorem sbX4_fillWaysa_82 {d : Nat} [zGh] (n : Nat) (self : List zV → zH d → zP d → Bool) (hself : zMet X_X4_fillWays yX4_fillWays (1 + n) self) (P : zP d) : zSim X_X4_fillWays (1 + (n + 1)) P 82 (bX4_fillWaysa_82 self P) := by
  unfold bX4_fillWaysa_82
  refine sm_istore (pc := 82) (n := 4) dX4_fillWays_82 ?_
  refine sm_iconst (pc := 84) dX4_fillWays_84 zc_i_0 ?_
  refine sm_istore (pc := 85) (n := 5) dX4_fillWays_85 ?_
  exact (sm_loopJ (j := 1) (fun G1 hG1 r87 hr87 => @slX4_fillWaysa_87 d G1 n self hself P r87 hr87) _).use
noncomputable def cX4_fillWaysa_54 {d : Nat} (self : List zV → zH d → zP d → Bool) (P : zP d) : zK d := (xald 0 (xdup (xgfI 20 13 (xpI 1 (xbin zaddR (xpfI 20 13 (xvret P)))))))
set_option maxRecDepth 100000 in
set_option maxHeartbeats 4000000 in
theorem scX4_fillWaysa_54 {d : Nat} [zGh] (n : Nat) (self : List zV → zH d → zP d → Bool) (hself : zMet X_X4_fillWays yX4_fillWays (1 + n) self) (P : zP d) : zSim X_X4_fillWays (1 + (n + 1)) P 54 (cX4_fillWaysa_54 self P) := by
  unfold cX4_fillWaysa_54
  refine sm_aload_n (pc := 54) (n := 0) dX4_fillWays_54 rfl ?_
  refine sm_dup (pc := 55) dX4_fillWays_55 ?_
  refine gf_X4_69 (pc := 56) rfl dX4_fillWays_56 ?_
  refine sm_iconst (pc := 59) dX4_fillWays_59 zc_i_1 ?_
  refine sm_iaddR (pc := 60) dX4_fillWays_60 ?_
  refine pf_X4_69 (pc := 61) rfl dX4_fillWays_61 ?_
  exact sm_vreturn (pc := 64) dX4_fillWays_64 rfl
noncomputable def b_X4_fillWaysa {d : Nat} (self : List zV → zH d → zP d → Bool) (P : zP d) : zK d := (xild 1 (xald 0 (xgfI 20 1 (xcmpS tgeR rlGe rhS rlS rhLt (xfc 20 13 8 (xvret P) (xald 0 (xgfR 20 14 (xpI 0 (xald 0 (xgfR 20 9 (xald 0 (xgfI 20 13 (xald 0 (xgfI 20 0 (xbin zmulR (xald 0 (xgfI 20 0 (xcpQ (xald 0 (xgfR 20 10 (xald 0 (xgfI 20 13 (xild 3 (xasQ 0 (fun v => v) (cX4_fillWaysa_54 self P))))))))))))))))))))) (xild 2 (xpI 1 (xbin zaddR (xald 0 (xgfR 20 2 (xild 1 (xalQ 0 (xjoin (bX4_fillWaysa_82 self P) (fun j82 => (xcmpS teqR rlEq rhEq rlNe rhNe (xpI 1 j82) (xpI 0 j82)))))))))))))))
set_option maxRecDepth 100000 in
set_option maxHeartbeats 4000000 in
theorem s_X4_fillWaysa {d : Nat} [zGh] (n : Nat) (self : List zV → zH d → zP d → Bool) (hself : zMet X_X4_fillWays yX4_fillWays (1 + n) self) (P : zP d) : zSim X_X4_fillWays (1 + (n + 1)) P 0 (b_X4_fillWaysa self P) := by
  unfold b_X4_fillWaysa
  refine sm_iload_n (pc := 0) (n := 1) dX4_fillWays_0 rfl ?_
  refine sm_aload_n (pc := 1) (n := 0) dX4_fillWays_1 rfl ?_
  refine gf_X4_13 (pc := 2) rfl dX4_fillWays_2 ?_
  refine sm_icmpS_lt (pc := 5) (tgt := 65) dX4_fillWays_5 (by decide) ?_ ?_
  · skip
    refine sm_iload_n (pc := 65) (n := 2) dX4_fillWays_65 rfl ?_
    refine sm_iconst (pc := 66) dX4_fillWays_66 zc_i_1 ?_
    refine sm_iaddR (pc := 67) dX4_fillWays_67 ?_
    refine sm_aload_n (pc := 68) (n := 0) dX4_fillWays_68 rfl ?_
    refine gf_X4_22 (pc := 69) rfl dX4_fillWays_69 ?_
    refine sm_iload_n (pc := 72) (n := 1) dX4_fillWays_72 rfl ?_
    refine sm_ialoadQ (pc := 73) dX4_fillWays_73 ?_
    refine sm_joinJ (pc := 74) (pc' := 82) (j := 1) (fun G0 hG0 => @sbX4_fillWaysa_82 d G0 n self hself P) (fun j82 hj82 => ?_)
    refine sm_icmpS_ne (pc := 74) (tgt := 81) dX4_fillWays_74 (by decide) ?_ ?_
    · skip
      refine sm_iconst (pc := 81) dX4_fillWays_81 zc_i_0 ?_
      exact hj82.use
    · skip
      refine sm_iconst (pc := 77) dX4_fillWays_77 zc_i_1 ?_
      refine sm_goto (pc := 78) (tgt := 82) dX4_fillWays_78 (by decide) ?_
      exact hj82.use
  · skip
    refine sm_fcmp (pc := 8) (tgt := 64) (ci := 4) (n1 := 13) (n2 := 8) (C := RX4) (T := TX4) (N := 16) rfl rfl rfl inz4 rfl (by decide) (by decide) rfl wd_153 rfl wd_148 rfl dX4_fillWays_8 rfl dX4_fillWays_9 dX4_fillWays_12 rfl dX4_fillWays_13 dX4_fillWays_16 (by decide) ?_ ?_
    · skip
      exact sm_vreturn (pc := 64) dX4_fillWays_64 rfl
    · skip
      refine sm_aload_n (pc := 19) (n := 0) dX4_fillWays_19 rfl ?_
      refine gf_X4_42 (pc := 20) rfl dX4_fillWays_20 ?_
      refine sm_iconst (pc := 23) dX4_fillWays_23 zc_i_0 ?_
      refine sm_aload_n (pc := 24) (n := 0) dX4_fillWays_24 rfl ?_
      refine gf_X4_63 (pc := 25) rfl dX4_fillWays_25 ?_
      refine sm_aload_n (pc := 28) (n := 0) dX4_fillWays_28 rfl ?_
      refine gf_X4_69 (pc := 29) rfl dX4_fillWays_29 ?_
      refine sm_aload_n (pc := 32) (n := 0) dX4_fillWays_32 rfl ?_
      refine gf_X4_7 (pc := 33) rfl dX4_fillWays_33 ?_
      refine sm_imulR (pc := 36) dX4_fillWays_36 ?_
      refine sm_aload_n (pc := 37) (n := 0) dX4_fillWays_37 rfl ?_
      refine gf_X4_7 (pc := 38) rfl dX4_fillWays_38 ?_
      refine sm_copyQ (pc := 41) wd_102 wd_80 wd_79 wd_7 (by omega) dX4_fillWays_41 ?_
      refine sm_aload_n (pc := 44) (n := 0) dX4_fillWays_44 rfl ?_
      refine gf_X4_66 (pc := 45) rfl dX4_fillWays_45 ?_
      refine sm_aload_n (pc := 48) (n := 0) dX4_fillWays_48 rfl ?_
      refine gf_X4_69 (pc := 49) rfl dX4_fillWays_49 ?_
      refine sm_iload_n (pc := 52) (n := 3) dX4_fillWays_52 rfl ?_
      refine sm_iastoreQ (pc := 53) dX4_fillWays_53 ?_
      exact scX4_fillWaysa_54 n self hself P
theorem mr_X4_fillWaysa {d : Nat} {mc ms : Nat} {r0 : zV} (Es : List (zEn d)) (hg : zgdR mc ms r0 (fun f => zfn 7 (b_X4_fillWaysa f)) Es = true) (n : Nat) (hn : Es.length ≤ n) : zMet X_X4_fillWays yX4_fillWays (1 + n) (zselfR mc ms r0 Es) := zMet_rc (X := X_X4_fillWays) (by decide) rfl rfl (fun n f hf _ P => s_X4_fillWaysa n f hf P) Es hg n hn
noncomputable def lX4_formWitha_5 {d : Nat} (P : zP d) (r5 : zK d) : zK d := (xild 4 (xaldV 0 (xgfI 20 8 (xcmpS tgeR rlGe rhS rlS rhLt (xild 3 (xiret P)) (xild 3 (xaldV 0 (xgfR 20 10 (xild 4 (xalQ 0 (xaldV 2 (xaldV 1 (xild 4 (xalQ 0 (xalQ 0 (xbin zmulR (xbin zaddR (xist 3 (xincR 4 1 r5))))))))))))))))))
set_option maxRecDepth 100000 in
set_option maxHeartbeats 4000000 in
theorem slX4_formWitha_5 {d : Nat} [zGh] (P : zP d) (r5 : zK d) (hr5 : zSimJ 2 X_X4_formWith 1 P 5 r5) : zSim X_X4_formWith 1 P 5 (lX4_formWitha_5 P r5) := by
  unfold lX4_formWitha_5
  refine sm_iload (pc := 5) (n := 4) dX4_formWith_5 ?_
  refine sm_aloadV_n (pc := 7) (n := 0) dX4_formWith_7 rfl ?_
  refine gf_X4_60 (pc := 8) rfl dX4_formWith_8 ?_
  refine sm_icmpS_ge (pc := 11) (tgt := 37) dX4_formWith_11 (by decide) ?_ ?_
  · skip
    refine sm_iload_n (pc := 37) (n := 3) dX4_formWith_37 rfl ?_
    exact sm_ireturn (pc := 38) dX4_formWith_38 rfl
  · skip
    refine sm_iload_n (pc := 14) (n := 3) dX4_formWith_14 rfl ?_
    refine sm_aloadV_n (pc := 15) (n := 0) dX4_formWith_15 rfl ?_
    refine gf_X4_66 (pc := 16) rfl dX4_formWith_16 ?_
    refine sm_iload (pc := 19) (n := 4) dX4_formWith_19 ?_
    refine sm_ialoadQ (pc := 21) dX4_formWith_21 ?_
    refine sm_aloadV_n (pc := 22) (n := 2) dX4_formWith_22 rfl ?_
    refine sm_aloadV_n (pc := 23) (n := 1) dX4_formWith_23 rfl ?_
    refine sm_iload (pc := 24) (n := 4) dX4_formWith_24 ?_
    refine sm_ialoadQ (pc := 26) dX4_formWith_26 ?_
    refine sm_ialoadQ (pc := 27) dX4_formWith_27 ?_
    refine sm_imulR (pc := 28) dX4_formWith_28 ?_
    refine sm_iaddR (pc := 29) dX4_formWith_29 ?_
    refine sm_istore_n (pc := 30) (n := 3) dX4_formWith_30 rfl ?_
    refine sm_iincR (pc := 31) (n := 4) dX4_formWith_31 zc_i_1 ?_
    refine sm_goto (pc := 34) (tgt := 5) dX4_formWith_34 (by decide) ?_
    exact hr5.use
noncomputable def b_X4_formWitha {d : Nat} (P : zP d) : zK d := (xpI 0 (xist 3 (xpI 0 (xist 4 (xlp 4 1 (hsF 0 [] 8) (wkL 3 4294967296 wkE) (fun r5 => (lX4_formWitha_5 P r5)))))))
set_option maxRecDepth 100000 in
set_option maxHeartbeats 4000000 in
theorem s_X4_formWitha {d : Nat} [zGh] (P : zP d) : zSim X_X4_formWith 1 P 0 (b_X4_formWitha P) := by
  unfold b_X4_formWitha
  refine sm_iconst (pc := 0) dX4_formWith_0 zc_i_0 ?_
  refine sm_istore_n (pc := 1) (n := 3) dX4_formWith_1 rfl ?_
  refine sm_iconst (pc := 2) dX4_formWith_2 zc_i_0 ?_
  refine sm_istore (pc := 3) (n := 4) dX4_formWith_3 ?_
  exact sm_lp (i := 4) (j := 1) (by decide) (by decide) hsF_ok (wkL_ok wkE_ok) (fun G1 hG1 r5 hr5 => @slX4_formWitha_5 d G1 P r5 hr5)
noncomputable def f_X4_formWitha {d : Nat} : List zV → zH d → zP d → Bool := zfn 5 b_X4_formWitha
theorem m_X4_formWitha {d : Nat} : zMet (d := d) X_X4_formWith yX4_formWith 1 f_X4_formWitha := zmet_mk (X := X_X4_formWith) (by decide) rfl rfl s_X4_formWitha
