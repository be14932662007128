section
/-! the reference by summaries, by program -/
noncomputable def bX9_spreadsa_148 {d : Nat} (self : List zV → zH d → zP d → Bool) (P : zP d) (r81 : zK d) : zK d := (xcV 25 6 0 0 self (xwk (wkQ 0 [32] wkE) (xald 0 (xald 0 (xild 4 (xild 3 (xcV 25 3 0 0 (zstr f_X9_cellAt) (xald 0 (xild 7 (xild 3 (xcV 25 3 0 0 (zstr f_X9_cellAt) (xcV 25 3 0 0 (zstr gM_X9_swaps) (xincR 7 1 r81)))))))))))))
set_option maxRecDepth 100000 in
set_option maxHeartbeats 4000000 in
theorem sbX9_spreadsa_148 {d : Nat} [zGh] (n : Nat) (self : List zV → zH d → zP d → Bool) (hself : zMet X_X9_spreads yX9_spreads (2 + n) self) (P : zP d) (r81 : zK d) (hr81 : zSimJ 1 X_X9_spreads (2 + (n + 1)) P 81 r81) : zSim X_X9_spreads (2 + (n + 1)) P 148 (bX9_spreadsa_148 self P r81) := by
  unfold bX9_spreadsa_148
  refine sm_cV (pc := 148) (ci := 9) (n := 6) (mc := 0) (ms := 0) rfl hself (cr_X9_227 (X := X_X9_spreads) (fr := 2 + (n + 1)) (frc := 2 + n) (pc := 148) (mc := 0) (ms := 0) rfl (by omega) dX9_spreads_148) ?_
  refine sm_wk (wkQ_ok wkE_ok) ?_
  refine sm_aload_n (pc := 151) (n := 0) dX9_spreads_151 rfl ?_
  refine sm_aload_n (pc := 152) (n := 0) dX9_spreads_152 rfl ?_
  refine sm_iload (pc := 153) (n := 4) dX9_spreads_153 ?_
  refine sm_iload_n (pc := 155) (n := 3) dX9_spreads_155 rfl ?_
  refine sm_cV (pc := 156) (ci := 9) (n := 3) (mc := 0) (ms := 0) rfl (zMet_str m_X9_cellAt) (cr_X9_214 (X := X_X9_spreads) (fr := 2 + (n + 1)) (frc := 2) (pc := 156) (mc := 0) (ms := 0) rfl (by omega) dX9_spreads_156) ?_
  refine sm_aload_n (pc := 159) (n := 0) dX9_spreads_159 rfl ?_
  refine sm_iload (pc := 160) (n := 7) dX9_spreads_160 ?_
  refine sm_iload_n (pc := 162) (n := 3) dX9_spreads_162 rfl ?_
  refine sm_cV (pc := 163) (ci := 9) (n := 3) (mc := 0) (ms := 0) rfl (zMet_str m_X9_cellAt) (cr_X9_214 (X := X_X9_spreads) (fr := 2 + (n + 1)) (frc := 2) (pc := 163) (mc := 0) (ms := 0) rfl (by omega) dX9_spreads_163) ?_
  refine sm_cV (pc := 166) (ci := 9) (n := 3) (mc := 0) (ms := 0) rfl (zMet_str mM_X9_swaps) (cr_X9_231 (X := X_X9_spreads) (fr := 2 + (n + 1)) (frc := 1) (pc := 166) (mc := 0) (ms := 0) rfl (by omega) dX9_spreads_166) ?_
  refine sm_iincR (pc := 169) (n := 7) dX9_spreads_169 zc_i_1 ?_
  refine sm_goto (pc := 172) (tgt := 81) dX9_spreads_172 (by decide) ?_
  exact hr81.use
noncomputable def cX9_spreadsa_127 {d : Nat} (self : List zV → zH d → zP d → Bool) (P : zP d) (r81 : zK d) : zK d := (xild 2 (xild 3 (xild 4 (xpI 1 (xbin zaddR (xild 7 (xild 4 (xjoin (bX9_spreadsa_148 self P r81) (fun j148 => (xcmpS teqR rlEq rhEq rlNe rhNe (xild 5 j148) (xild 5 (xun zneg j148))))))))))))
set_option maxRecDepth 100000 in
set_option maxHeartbeats 4000000 in
theorem scX9_spreadsa_127 {d : Nat} [zGh] (n : Nat) (self : List zV → zH d → zP d → Bool) (hself : zMet X_X9_spreads yX9_spreads (2 + n) self) (P : zP d) (r81 : zK d) (hr81 : zSimJ 1 X_X9_spreads (2 + (n + 1)) P 81 r81) : zSim X_X9_spreads (2 + (n + 1)) P 127 (cX9_spreadsa_127 self P r81) := by
  unfold cX9_spreadsa_127
  refine sm_iload_n (pc := 127) (n := 2) dX9_spreads_127 rfl ?_
  refine sm_iload_n (pc := 128) (n := 3) dX9_spreads_128 rfl ?_
  refine sm_iload (pc := 129) (n := 4) dX9_spreads_129 ?_
  refine sm_iconst (pc := 131) dX9_spreads_131 zc_i_1 ?_
  refine sm_iaddR (pc := 132) dX9_spreads_132 ?_
  refine sm_iload (pc := 133) (n := 7) dX9_spreads_133 ?_
  refine sm_iload (pc := 135) (n := 4) dX9_spreads_135 ?_
  refine sm_joinJ (pc := 137) (pc' := 148) (j := 1) (fun G0 hG0 => @sbX9_spreadsa_148 d G0 n self hself P r81 (hr81.mv hG0 (by decide))) (fun j148 hj148 => ?_)
  refine sm_icmpS_ne (pc := 137) (tgt := 145) dX9_spreads_137 (by decide) ?_ ?_
  · skip
    refine sm_iload (pc := 145) (n := 5) dX9_spreads_145 ?_
    refine sm_ineg (pc := 147) dX9_spreads_147 ?_
    exact hj148.use
  · skip
    refine sm_iload (pc := 140) (n := 5) dX9_spreads_140 ?_
    refine sm_goto (pc := 142) (tgt := 148) dX9_spreads_142 (by decide) ?_
    exact hj148.use
noncomputable def lX9_spreadsa_81 {d : Nat} (self : List zV → zH d → zP d → Bool) (P : zP d) (r81 : zK d) : zK d := (xild 7 (xild 6 (xcmpS tgeR rlGe rhS rlS rhLt (xvret P) (xald 0 (xald 0 (xild 4 (xild 3 (xcV 25 3 0 0 (zstr f_X9_cellAt) (xald 0 (xild 7 (xild 3 (xcV 25 3 0 0 (zstr f_X9_cellAt) (xcV 25 3 0 0 (zstr gM_X9_swaps) (xald 0 (xgfR 25 32 (xald 0 (xgfR 25 31 (xald 0 (xild 4 (xild 3 (xcV 25 3 0 0 (zstr f_X9_cellAt) (xpl 4 (xald 0 (xald 1 (cX9_spreadsa_127 self P r81)))))))))))))))))))))))))
set_option maxRecDepth 100000 in
set_option maxHeartbeats 4000000 in
theorem slX9_spreadsa_81 {d : Nat} [zGh] (n : Nat) (self : List zV → zH d → zP d → Bool) (hself : zMet X_X9_spreads yX9_spreads (2 + n) self) (P : zP d) (r81 : zK d) (hr81 : zSimJ 1 X_X9_spreads (2 + (n + 1)) P 81 r81) : zSim X_X9_spreads (2 + (n + 1)) P 81 (lX9_spreadsa_81 self P r81) := by
  unfold lX9_spreadsa_81
  refine sm_iload (pc := 81) (n := 7) dX9_spreads_81 ?_
  refine sm_iload (pc := 83) (n := 6) dX9_spreads_83 ?_
  refine sm_icmpS_ge (pc := 85) (tgt := 175) dX9_spreads_85 (by decide) ?_ ?_
  · skip
    exact sm_vreturn (pc := 175) dX9_spreads_175 rfl
  · skip
    refine sm_aload_n (pc := 88) (n := 0) dX9_spreads_88 rfl ?_
    refine sm_aload_n (pc := 89) (n := 0) dX9_spreads_89 rfl ?_
    refine sm_iload (pc := 90) (n := 4) dX9_spreads_90 ?_
    refine sm_iload_n (pc := 92) (n := 3) dX9_spreads_92 rfl ?_
    refine sm_cV (pc := 93) (ci := 9) (n := 3) (mc := 0) (ms := 0) rfl (zMet_str m_X9_cellAt) (cr_X9_214 (X := X_X9_spreads) (fr := 2 + (n + 1)) (frc := 2) (pc := 93) (mc := 0) (ms := 0) rfl (by omega) dX9_spreads_93) ?_
    refine sm_aload_n (pc := 96) (n := 0) dX9_spreads_96 rfl ?_
    refine sm_iload (pc := 97) (n := 7) dX9_spreads_97 ?_
    refine sm_iload_n (pc := 99) (n := 3) dX9_spreads_99 rfl ?_
    refine sm_cV (pc := 100) (ci := 9) (n := 3) (mc := 0) (ms := 0) rfl (zMet_str m_X9_cellAt) (cr_X9_214 (X := X_X9_spreads) (fr := 2 + (n + 1)) (frc := 2) (pc := 100) (mc := 0) (ms := 0) rfl (by omega) dX9_spreads_100) ?_
    refine sm_cV (pc := 103) (ci := 9) (n := 3) (mc := 0) (ms := 0) rfl (zMet_str mM_X9_swaps) (cr_X9_231 (X := X_X9_spreads) (fr := 2 + (n + 1)) (frc := 1) (pc := 103) (mc := 0) (ms := 0) rfl (by omega) dX9_spreads_103) ?_
    refine sm_aload_n (pc := 106) (n := 0) dX9_spreads_106 rfl ?_
    refine gf_X9_81 (pc := 107) rfl dX9_spreads_107 ?_
    refine sm_aload_n (pc := 110) (n := 0) dX9_spreads_110 rfl ?_
    refine gf_X9_78 (pc := 111) rfl dX9_spreads_111 ?_
    refine sm_aload_n (pc := 114) (n := 0) dX9_spreads_114 rfl ?_
    refine sm_iload (pc := 115) (n := 4) dX9_spreads_115 ?_
    refine sm_iload_n (pc := 117) (n := 3) dX9_spreads_117 rfl ?_
    refine sm_cV (pc := 118) (ci := 9) (n := 3) (mc := 0) (ms := 0) rfl (zMet_str m_X9_cellAt) (cr_X9_214 (X := X_X9_spreads) (fr := 2 + (n + 1)) (frc := 2) (pc := 118) (mc := 0) (ms := 0) rfl (by omega) dX9_spreads_118) ?_
    refine sm_pl (pc := 121) (n := 4) dX9_spreads_121 dX9_spreads_122 dX9_spreads_124 ?_
    refine sm_aload_n (pc := 125) (n := 0) dX9_spreads_125 rfl ?_
    refine sm_aload_n (pc := 126) (n := 1) dX9_spreads_126 rfl ?_
    exact scX9_spreadsa_127 n self hself P r81 hr81
noncomputable def bX9_spreadsa_57 {d : Nat} (self : List zV → zH d → zP d → Bool) (P : zP d) : zK d := (xild 4 (xild 6 (xcmpS teqR rlEq rhEq rlNe rhNe (xald 0 (xald 1 (xild 2 (xild 3 (xpI 1 (xbin zaddR (xpI 0 (xild 5 (xcV 25 6 0 0 self (xvret P)))))))))) (xild 4 (xist 7 (xloop (fun r81 => (lX9_spreadsa_81 self P r81)) 100000))))))
set_option maxRecDepth 100000 in
set_option maxHeartbeats 4000000 in
theorem sbX9_spreadsa_57 {d : Nat} [zGh] (n : Nat) (self : List zV → zH d → zP d → Bool) (hself : zMet X_X9_spreads yX9_spreads (2 + n) self) (P : zP d) : zSim X_X9_spreads (2 + (n + 1)) P 57 (bX9_spreadsa_57 self P) := by
  unfold bX9_spreadsa_57
  refine sm_iload (pc := 57) (n := 4) dX9_spreads_57 ?_
  refine sm_iload (pc := 59) (n := 6) dX9_spreads_59 ?_
  refine sm_icmpS_ne (pc := 61) (tgt := 77) dX9_spreads_61 (by decide) ?_ ?_
  · skip
    refine sm_iload (pc := 77) (n := 4) dX9_spreads_77 ?_
    refine sm_istore (pc := 79) (n := 7) dX9_spreads_79 ?_
    exact (sm_loopJ (j := 1) (fun G1 hG1 r81 hr81 => @slX9_spreadsa_81 d G1 n self hself P r81 hr81) _).use
  · skip
    refine sm_aload_n (pc := 64) (n := 0) dX9_spreads_64 rfl ?_
    refine sm_aload_n (pc := 65) (n := 1) dX9_spreads_65 rfl ?_
    refine sm_iload_n (pc := 66) (n := 2) dX9_spreads_66 rfl ?_
    refine sm_iload_n (pc := 67) (n := 3) dX9_spreads_67 rfl ?_
    refine sm_iconst (pc := 68) dX9_spreads_68 zc_i_1 ?_
    refine sm_iaddR (pc := 69) dX9_spreads_69 ?_
    refine sm_iconst (pc := 70) dX9_spreads_70 zc_i_0 ?_
    refine sm_iload (pc := 71) (n := 5) dX9_spreads_71 ?_
    refine sm_cV (pc := 73) (ci := 9) (n := 6) (mc := 0) (ms := 0) rfl hself (cr_X9_227 (X := X_X9_spreads) (fr := 2 + (n + 1)) (frc := 2 + n) (pc := 73) (mc := 0) (ms := 0) rfl (by omega) dX9_spreads_73) ?_
    exact sm_vreturn (pc := 76) dX9_spreads_76 rfl
noncomputable def lX9_spreadsa_30 {d : Nat} (self : List zV → zH d → zP d → Bool) (P : zP d) (r30 : zK d) : zK d := (xild 6 (xpI 6 (xjoin (bX9_spreadsa_57 self P) (fun j57 => (xcmpS tgeR rlGe rhS rlS rhLt j57 (xald 0 (xald 0 (xgfI 25 25 (xild 6 (xcV 25 3 0 0 (zstr f_X9_partOf) (xild 3 (xcmpS tleR rlS rhLe rlGt rhS j57 (xincR 6 1 r30)))))))))))))
set_option maxRecDepth 100000 in
set_option maxHeartbeats 4000000 in
theorem slX9_spreadsa_30 {d : Nat} [zGh] (n : Nat) (self : List zV → zH d → zP d → Bool) (hself : zMet X_X9_spreads yX9_spreads (2 + n) self) (P : zP d) (r30 : zK d) (hr30 : zSimJ 1 X_X9_spreads (2 + (n + 1)) P 30 r30) : zSim X_X9_spreads (2 + (n + 1)) P 30 (lX9_spreadsa_30 self P r30) := by
  unfold lX9_spreadsa_30
  refine sm_iload (pc := 30) (n := 6) dX9_spreads_30 ?_
  refine sm_bipush (pc := 32) dX9_spreads_32 zc_b_6 ?_
  refine sm_joinJ (pc := 34) (pc' := 57) (j := 1) (fun G0 hG0 => @sbX9_spreadsa_57 d G0 n self hself P) (fun j57 hj57 => ?_)
  refine sm_icmpS_ge (pc := 34) (tgt := 57) dX9_spreads_34 (by decide) ?_ ?_
  · skip
    exact hj57.use
  · skip
    refine sm_aload_n (pc := 37) (n := 0) dX9_spreads_37 rfl ?_
    refine sm_aload_n (pc := 38) (n := 0) dX9_spreads_38 rfl ?_
    refine gf_X9_205 (pc := 39) rfl dX9_spreads_39 ?_
    refine sm_iload (pc := 42) (n := 6) dX9_spreads_42 ?_
    refine sm_cV (pc := 44) (ci := 9) (n := 3) (mc := 0) (ms := 0) rfl (zMet_str m_X9_partOf) (cr_X9_175 (X := X_X9_spreads) (fr := 2 + (n + 1)) (frc := 1) (pc := 44) (mc := 0) (ms := 0) rfl (by omega) dX9_spreads_44) ?_
    refine sm_iload_n (pc := 47) (n := 3) dX9_spreads_47 rfl ?_
    refine sm_icmpS_le (pc := 48) (tgt := 57) dX9_spreads_48 (by decide) ?_ ?_
    · skip
      exact hj57.use
    · skip
      refine sm_iincR (pc := 51) (n := 6) dX9_spreads_51 zc_i_1 ?_
      refine sm_goto (pc := 54) (tgt := 30) dX9_spreads_54 (by decide) ?_
      exact hr30.use
noncomputable def b_X9_spreadsa {d : Nat} (self : List zV → zH d → zP d → Bool) (P : zP d) : zK d := (xild 3 (xald 0 (xald 0 (xgfI 25 25 (xpI 0 (xcV 25 3 0 0 (zstr f_X9_partOf) (xcmpS teqR rlEq rhEq rlNe rhNe (xald 1 (xild 2 (xald 0 (xcV 25 1 0 0 (zstr gM_X9_placeNow) (xbin zaddR (xdup2 (xalQ 0 (xild 5 (xbin zaddR (xasQ 0 (fun v => v) (xvret P))))))))))) (xpI 0 (xist 6 (xloop (fun r30 => (lX9_spreadsa_30 self P r30)) 100000))))))))))
set_option maxRecDepth 100000 in
set_option maxHeartbeats 4000000 in
theorem s_X9_spreadsa {d : Nat} [zGh] (n : Nat) (self : List zV → zH d → zP d → Bool) (hself : zMet X_X9_spreads yX9_spreads (2 + n) self) (P : zP d) : zSim X_X9_spreads (2 + (n + 1)) P 0 (b_X9_spreadsa self P) := by
  unfold b_X9_spreadsa
  refine sm_iload_n (pc := 0) (n := 3) dX9_spreads_0 rfl ?_
  refine sm_aload_n (pc := 1) (n := 0) dX9_spreads_1 rfl ?_
  refine sm_aload_n (pc := 2) (n := 0) dX9_spreads_2 rfl ?_
  refine gf_X9_205 (pc := 3) rfl dX9_spreads_3 ?_
  refine sm_iconst (pc := 6) dX9_spreads_6 zc_i_0 ?_
  refine sm_cV (pc := 7) (ci := 9) (n := 3) (mc := 0) (ms := 0) rfl (zMet_str m_X9_partOf) (cr_X9_175 (X := X_X9_spreads) (fr := 2 + (n + 1)) (frc := 1) (pc := 7) (mc := 0) (ms := 0) rfl (by omega) dX9_spreads_7) ?_
  refine sm_icmpS_ne (pc := 10) (tgt := 27) dX9_spreads_10 (by decide) ?_ ?_
  · skip
    refine sm_iconst (pc := 27) dX9_spreads_27 zc_i_0 ?_
    refine sm_istore (pc := 28) (n := 6) dX9_spreads_28 ?_
    exact (sm_loopJ (j := 1) (fun G1 hG1 r30 hr30 => @slX9_spreadsa_30 d G1 n self hself P r30 hr30) _).use
  · skip
    refine sm_aload_n (pc := 13) (n := 1) dX9_spreads_13 rfl ?_
    refine sm_iload_n (pc := 14) (n := 2) dX9_spreads_14 rfl ?_
    refine sm_aload_n (pc := 15) (n := 0) dX9_spreads_15 rfl ?_
    refine sm_cV (pc := 16) (ci := 9) (n := 1) (mc := 0) (ms := 0) rfl (zMet_str mM_X9_placeNow) (cr_X9_223 (X := X_X9_spreads) (fr := 2 + (n + 1)) (frc := 1) (pc := 16) (mc := 0) (ms := 0) rfl (by omega) dX9_spreads_16) ?_
    refine sm_iaddR (pc := 19) dX9_spreads_19 ?_
    refine sm_dup2 (pc := 20) dX9_spreads_20 ?_
    refine sm_ialoadQ (pc := 21) dX9_spreads_21 ?_
    refine sm_iload (pc := 22) (n := 5) dX9_spreads_22 ?_
    refine sm_iaddR (pc := 24) dX9_spreads_24 ?_
    refine sm_iastoreQ (pc := 25) dX9_spreads_25 ?_
    exact sm_vreturn (pc := 26) dX9_spreads_26 rfl
theorem mr_X9_spreadsa {d : Nat} {mc ms : Nat} {r0 : zV} (Es : List (zEn d)) (hg : zgdR mc ms r0 (fun f => zfn 8 (b_X9_spreadsa f)) Es = true) (n : Nat) (hn : Es.length ≤ n) : zMet X_X9_spreads yX9_spreads (2 + n) (zselfR mc ms r0 Es) := zMet_rc (X := X_X9_spreads) (by decide) rfl rfl (fun n f hf _ P => s_X9_spreadsa n f hf P) Es hg n hn

noncomputable def zk_99_zs1_99_e00_X9_spreads_0 : zT 2 := @Prod.mk (zT 1) (zT 1) ((25, 63, bg_101), (0, 12000, zun 40 12000 4294967296)) ((0, 66, bg_1), (8, 6, 1))
noncomputable def e_X9_spreads_0_0 : zH 3 := (show zT 3 from (zk_99_zs1_99_e00_X9_spreads_0, (((9, 7, 1), (10, 46656, 1)), ((11, 720, 1), (0, 0, 0)))), (7, (0, 0)))
noncomputable def e_X9_spreads_0_1 : zH 3 := (show zT 3 from (zk_99_zs1_99_e00_X9_spreads_0, (((9, 7, 1048577), (10, 46656, 1)), ((11, 720, 1), (0, 0, 0)))), (7, (0, 0)))
noncomputable def e_X9_spreads_0_2 : zH 3 := (show zT 3 from (zk_99_zs1_99_e00_X9_spreads_0, (((9, 7, 1048577), (10, 46656, 1)), ((11, 720, 1), (0, 0, 0)))), (7, (0, 0)))
noncomputable abbrev es_X9_spreads_0 : List (zEn 3) := [([zR 1, zR 2, zI 4294978097, zI 0, zI 0, zI 4294967296], e_X9_spreads_0_0), ([zR 1, zR 2, zI 4294978097, zI 0, zI 1, zI 4294967296], e_X9_spreads_0_1), ([zR 1, zR 2, zI 4294978097, zI 1, zI 0, zI 4294967296], e_X9_spreads_0_2)]
theorem we_X9_spreads_0 : zgdR 0 0 (zU) (fun f => zfn 8 (b_X9_spreadsa f)) es_X9_spreads_0 = true := by decide +kernel
theorem ev_X9_spreads_0 : zselfR 0 0 (zU) es_X9_spreads_0 [zR 1, zR 2, zI 4294978097, zI 0, zI 0, zI 4294967296] e_X9_spreads_0_0 (zrk (zU) e_X9_spreads_0_0) = true := by decide +kernel
noncomputable def g_X9_spreads_0 {d : Nat} : List zV → zH d → zP d → Bool := zsmyM [(0, 0), (0, 1), (1, 3), (1, 31), (1, 32), (1, 26), (1, 27)] [zR 1, zR 2, zI 4294978097, zI 0, zI 0, zI 4294967296] e_X9_spreads_0_0 (zU) e_X9_spreads_0_0
theorem mg_X9_spreads_0 {d : Nat} : zMet (d := d) X_X9_spreads yX9_spreads 16 g_X9_spreads_0 := zMet_smM (mr_X9_spreadsa es_X9_spreads_0 we_X9_spreads_0 14 (by decide)) ev_X9_spreads_0
noncomputable def zk_99_zs1_99_e00_X9_spreads_1 : zT 2 := @Prod.mk (zT 1) (zT 1) ((25, 63, bg_102), (0, 12000, zun 40 12000 4294967296)) ((0, 66, bg_2), (8, 6, 2))
noncomputable def e_X9_spreads_1_0 : zH 3 := (show zT 3 from (zk_99_zs1_99_e00_X9_spreads_1, (((9, 7, 2), (10, 46656, 2)), ((11, 720, 2), (0, 0, 0)))), (7, (0, 0)))
noncomputable def e_X9_spreads_1_1 : zH 3 := (show zT 3 from (zk_99_zs1_99_e00_X9_spreads_1, (((9, 7, 1048578), (10, 46656, 2)), ((11, 720, 2), (0, 0, 0)))), (7, (0, 0)))
noncomputable def e_X9_spreads_1_2 : zH 3 := (show zT 3 from (zk_99_zs1_99_e00_X9_spreads_1, (((9, 7, 1048578), (10, 46656, 2)), ((11, 720, 2), (0, 0, 0)))), (7, (0, 0)))
noncomputable def e_X9_spreads_1_3 : zH 3 := (show zT 3 from (zk_99_zs1_99_e00_X9_spreads_1, (((9, 7, 2097154), (10, 46656, 2)), ((11, 720, 2), (0, 0, 0)))), (7, (0, 0)))
noncomputable def e_X9_spreads_1_4 : zH 3 := (show zT 3 from (zk_99_zs1_99_e00_X9_spreads_1, (((9, 7, 2097154), (10, 46656, 2)), ((11, 720, 2), (0, 0, 0)))), (7, (0, 0)))
noncomputable abbrev es_X9_spreads_1 : List (zEn 3) := [([zR 1, zR 2, zI 4294978097, zI 0, zI 0, zI 4294967296], e_X9_spreads_1_0), ([zR 1, zR 2, zI 4294978097, zI 0, zI 1, zI 4294967296], e_X9_spreads_1_1), ([zR 1, zR 2, zI 4294978097, zI 1, zI 0, zI 4294967296], e_X9_spreads_1_2), ([zR 1, zR 2, zI 4294978097, zI 1, zI 1, zI 4294967296], e_X9_spreads_1_3), ([zR 1, zR 2, zI 4294978097, zI 2, zI 0, zI 4294967296], e_X9_spreads_1_4)]
theorem we_X9_spreads_1 : zgdR 0 0 (zU) (fun f => zfn 8 (b_X9_spreadsa f)) es_X9_spreads_1 = true := by decide +kernel
theorem ev_X9_spreads_1 : zselfR 0 0 (zU) es_X9_spreads_1 [zR 1, zR 2, zI 4294978097, zI 0, zI 0, zI 4294967296] e_X9_spreads_1_0 (zrk (zU) e_X9_spreads_1_0) = true := by decide +kernel
noncomputable def g_X9_spreads_1 {d : Nat} : List zV → zH d → zP d → Bool := zsmyM [(0, 0), (0, 1), (1, 3), (1, 31), (1, 32), (1, 26), (1, 27)] [zR 1, zR 2, zI 4294978097, zI 0, zI 0, zI 4294967296] e_X9_spreads_1_0 (zU) e_X9_spreads_1_0
theorem mg_X9_spreads_1 {d : Nat} : zMet (d := d) X_X9_spreads yX9_spreads 16 g_X9_spreads_1 := zMet_smM (mr_X9_spreadsa es_X9_spreads_1 we_X9_spreads_1 14 (by decide)) ev_X9_spreads_1
noncomputable def zk_99_zs1_99_e00_X9_spreads_2 : zT 2 := @Prod.mk (zT 1) (zT 1) ((25, 63, bg_103), (0, 12000, zun 40 12000 4294967296)) ((0, 66, bg_2), (8, 6, 9))
noncomputable def e_X9_spreads_2_0 : zH 3 := (show zT 3 from (zk_99_zs1_99_e00_X9_spreads_2, (((9, 7, 9), (10, 46656, 9)), ((11, 720, 9), (0, 0, 0)))), (7, (0, 0)))
noncomputable def e_X9_spreads_2_1 : zH 3 := (show zT 3 from (zk_99_zs1_99_e00_X9_spreads_2, (((9, 7, 1048585), (10, 46656, 9)), ((11, 720, 9), (0, 0, 0)))), (7, (0, 0)))
noncomputable def e_X9_spreads_2_2 : zH 3 := (show zT 3 from (zk_99_zs1_99_e00_X9_spreads_2, (((9, 7, 2097161), (10, 46656, 9)), ((11, 720, 9), (0, 0, 0)))), (7, (0, 0)))
noncomputable def e_X9_spreads_2_3 : zH 3 := (show zT 3 from (zk_99_zs1_99_e00_X9_spreads_2, (((9, 7, 2097161), (10, 46656, 9)), ((11, 720, 9), (0, 0, 0)))), (7, (0, 0)))
noncomputable abbrev es_X9_spreads_2 : List (zEn 3) := [([zR 1, zR 2, zI 4294978097, zI 0, zI 0, zI 4294967296], e_X9_spreads_2_0), ([zR 1, zR 2, zI 4294978097, zI 0, zI 1, zI 4294967296], e_X9_spreads_2_1), ([zR 1, zR 2, zI 4294978097, zI 0, zI 2, zI 4294967296], e_X9_spreads_2_2), ([zR 1, zR 2, zI 4294978097, zI 1, zI 0, zI 4294967296], e_X9_spreads_2_3)]
theorem we_X9_spreads_2 : zgdR 0 0 (zU) (fun f => zfn 8 (b_X9_spreadsa f)) es_X9_spreads_2 = true := by decide +kernel
theorem ev_X9_spreads_2 : zselfR 0 0 (zU) es_X9_spreads_2 [zR 1, zR 2, zI 4294978097, zI 0, zI 0, zI 4294967296] e_X9_spreads_2_0 (zrk (zU) e_X9_spreads_2_0) = true := by decide +kernel
noncomputable def g_X9_spreads_2 {d : Nat} : List zV → zH d → zP d → Bool := zsmyM [(0, 0), (0, 1), (1, 3), (1, 31), (1, 32), (1, 26), (1, 27)] [zR 1, zR 2, zI 4294978097, zI 0, zI 0, zI 4294967296] e_X9_spreads_2_0 (zU) e_X9_spreads_2_0
theorem mg_X9_spreads_2 {d : Nat} : zMet (d := d) X_X9_spreads yX9_spreads 16 g_X9_spreads_2 := zMet_smM (mr_X9_spreadsa es_X9_spreads_2 we_X9_spreads_2 14 (by decide)) ev_X9_spreads_2
noncomputable def zk_99_zs1_99_e00_X9_spreads_3 : zT 2 := @Prod.mk (zT 1) (zT 1) ((25, 63, bg_104), (0, 12000, zun 40 12000 4294967296)) ((0, 66, bg_3), (8, 6, 3))
noncomputable def e_X9_spreads_3_0 : zH 3 := (show zT 3 from (zk_99_zs1_99_e00_X9_spreads_3, (((9, 7, 3), (10, 46656, 3)), ((11, 720, 3), (0, 0, 0)))), (7, (0, 0)))
noncomputable def e_X9_spreads_3_1 : zH 3 := (show zT 3 from (zk_99_zs1_99_e00_X9_spreads_3, (((9, 7, 1048579), (10, 46656, 3)), ((11, 720, 3), (0, 0, 0)))), (7, (0, 0)))
noncomputable def e_X9_spreads_3_2 : zH 3 := (show zT 3 from (zk_99_zs1_99_e00_X9_spreads_3, (((9, 7, 1048579), (10, 46656, 3)), ((11, 720, 3), (0, 0, 0)))), (7, (0, 0)))
noncomputable def e_X9_spreads_3_3 : zH 3 := (show zT 3 from (zk_99_zs1_99_e00_X9_spreads_3, (((9, 7, 2097155), (10, 46656, 3)), ((11, 720, 3), (0, 0, 0)))), (7, (0, 0)))
noncomputable def e_X9_spreads_3_4 : zH 3 := (show zT 3 from (zk_99_zs1_99_e00_X9_spreads_3, (((9, 7, 2097155), (10, 46656, 3)), ((11, 720, 3), (0, 0, 0)))), (7, (0, 0)))
noncomputable def e_X9_spreads_3_5 : zH 3 := (show zT 3 from (zk_99_zs1_99_e00_X9_spreads_3, (((9, 7, 3145731), (10, 46656, 3)), ((11, 720, 3), (0, 0, 0)))), (7, (0, 0)))
noncomputable def e_X9_spreads_3_6 : zH 3 := (show zT 3 from (zk_99_zs1_99_e00_X9_spreads_3, (((9, 7, 3145731), (10, 46656, 3)), ((11, 720, 3), (0, 0, 0)))), (7, (0, 0)))
noncomputable abbrev es_X9_spreads_3 : List (zEn 3) := [([zR 1, zR 2, zI 4294978097, zI 0, zI 0, zI 4294967296], e_X9_spreads_3_0), ([zR 1, zR 2, zI 4294978097, zI 0, zI 1, zI 4294967296], e_X9_spreads_3_1), ([zR 1, zR 2, zI 4294978097, zI 1, zI 0, zI 4294967296], e_X9_spreads_3_2), ([zR 1, zR 2, zI 4294978097, zI 1, zI 1, zI 4294967296], e_X9_spreads_3_3), ([zR 1, zR 2, zI 4294978097, zI 2, zI 0, zI 4294967296], e_X9_spreads_3_4), ([zR 1, zR 2, zI 4294978097, zI 2, zI 1, zI 4294967296], e_X9_spreads_3_5), ([zR 1, zR 2, zI 4294978097, zI 3, zI 0, zI 4294967296], e_X9_spreads_3_6)]
theorem we_X9_spreads_3 : zgdR 0 0 (zU) (fun f => zfn 8 (b_X9_spreadsa f)) es_X9_spreads_3 = true := by decide +kernel
theorem ev_X9_spreads_3 : zselfR 0 0 (zU) es_X9_spreads_3 [zR 1, zR 2, zI 4294978097, zI 0, zI 0, zI 4294967296] e_X9_spreads_3_0 (zrk (zU) e_X9_spreads_3_0) = true := by decide +kernel
noncomputable def g_X9_spreads_3 {d : Nat} : List zV → zH d → zP d → Bool := zsmyM [(0, 0), (0, 1), (1, 3), (1, 31), (1, 32), (1, 26), (1, 27)] [zR 1, zR 2, zI 4294978097, zI 0, zI 0, zI 4294967296] e_X9_spreads_3_0 (zU) e_X9_spreads_3_0
theorem mg_X9_spreads_3 {d : Nat} : zMet (d := d) X_X9_spreads yX9_spreads 16 g_X9_spreads_3 := zMet_smM (mr_X9_spreadsa es_X9_spreads_3 we_X9_spreads_3 14 (by decide)) ev_X9_spreads_3
noncomputable def zk_99_zs1_99_e00_X9_spreads_4 : zT 2 := @Prod.mk (zT 1) (zT 1) ((25, 63, bg_105), (0, 12000, zun 40 12000 4294967296)) ((0, 66, bg_3), (8, 6, 10))
noncomputable def e_X9_spreads_4_0 : zH 3 := (show zT 3 from (zk_99_zs1_99_e00_X9_spreads_4, (((9, 7, 10), (10, 46656, 10)), ((11, 720, 10), (0, 0, 0)))), (7, (0, 0)))
noncomputable def e_X9_spreads_4_1 : zH 3 := (show zT 3 from (zk_99_zs1_99_e00_X9_spreads_4, (((9, 7, 1048586), (10, 46656, 10)), ((11, 720, 10), (0, 0, 0)))), (7, (0, 0)))
noncomputable def e_X9_spreads_4_2 : zH 3 := (show zT 3 from (zk_99_zs1_99_e00_X9_spreads_4, (((9, 7, 2097162), (10, 46656, 10)), ((11, 720, 10), (0, 0, 0)))), (7, (0, 0)))
noncomputable def e_X9_spreads_4_3 : zH 3 := (show zT 3 from (zk_99_zs1_99_e00_X9_spreads_4, (((9, 7, 2097162), (10, 46656, 10)), ((11, 720, 10), (0, 0, 0)))), (7, (0, 0)))
noncomputable def e_X9_spreads_4_4 : zH 3 := (show zT 3 from (zk_99_zs1_99_e00_X9_spreads_4, (((9, 7, 3145738), (10, 46656, 10)), ((11, 720, 10), (0, 0, 0)))), (7, (0, 0)))
noncomputable def e_X9_spreads_4_5 : zH 3 := (show zT 3 from (zk_99_zs1_99_e00_X9_spreads_4, (((9, 7, 3145738), (10, 46656, 10)), ((11, 720, 10), (0, 0, 0)))), (7, (0, 0)))
noncomputable abbrev es_X9_spreads_4 : List (zEn 3) := [([zR 1, zR 2, zI 4294978097, zI 0, zI 0, zI 4294967296], e_X9_spreads_4_0), ([zR 1, zR 2, zI 4294978097, zI 0, zI 1, zI 4294967296], e_X9_spreads_4_1), ([zR 1, zR 2, zI 4294978097, zI 0, zI 2, zI 4294967296], e_X9_spreads_4_2), ([zR 1, zR 2, zI 4294978097, zI 1, zI 0, zI 4294967296], e_X9_spreads_4_3), ([zR 1, zR 2, zI 4294978097, zI 1, zI 1, zI 4294967296], e_X9_spreads_4_4), ([zR 1, zR 2, zI 4294978097, zI 2, zI 0, zI 4294967296], e_X9_spreads_4_5)]
theorem we_X9_spreads_4 : zgdR 0 0 (zU) (fun f => zfn 8 (b_X9_spreadsa f)) es_X9_spreads_4 = true := by decide +kernel
theorem ev_X9_spreads_4 : zselfR 0 0 (zU) es_X9_spreads_4 [zR 1, zR 2, zI 4294978097, zI 0, zI 0, zI 4294967296] e_X9_spreads_4_0 (zrk (zU) e_X9_spreads_4_0) = true := by decide +kernel
noncomputable def g_X9_spreads_4 {d : Nat} : List zV → zH d → zP d → Bool := zsmyM [(0, 0), (0, 1), (1, 3), (1, 31), (1, 32), (1, 26), (1, 27)] [zR 1, zR 2, zI 4294978097, zI 0, zI 0, zI 4294967296] e_X9_spreads_4_0 (zU) e_X9_spreads_4_0
theorem mg_X9_spreads_4 {d : Nat} : zMet (d := d) X_X9_spreads yX9_spreads 16 g_X9_spreads_4 := zMet_smM (mr_X9_spreadsa es_X9_spreads_4 we_X9_spreads_4 14 (by decide)) ev_X9_spreads_4
noncomputable def zk_99_zs1_99_e00_X9_spreads_5 : zT 2 := @Prod.mk (zT 1) (zT 1) ((25, 63, bg_106), (0, 12000, zun 40 12000 4294967296)) ((0, 66, bg_3), (8, 6, 73))
noncomputable def e_X9_spreads_5_0 : zH 3 := (show zT 3 from (zk_99_zs1_99_e00_X9_spreads_5, (((9, 7, 73), (10, 46656, 73)), ((11, 720, 73), (0, 0, 0)))), (7, (0, 0)))
noncomputable def e_X9_spreads_5_1 : zH 3 := (show zT 3 from (zk_99_zs1_99_e00_X9_spreads_5, (((9, 7, 1048649), (10, 46656, 73)), ((11, 720, 73), (0, 0, 0)))), (7, (0, 0)))
noncomputable def e_X9_spreads_5_2 : zH 3 := (show zT 3 from (zk_99_zs1_99_e00_X9_spreads_5, (((9, 7, 2097225), (10, 46656, 73)), ((11, 720, 73), (0, 0, 0)))), (7, (0, 0)))
noncomputable def e_X9_spreads_5_3 : zH 3 := (show zT 3 from (zk_99_zs1_99_e00_X9_spreads_5, (((9, 7, 3145801), (10, 46656, 73)), ((11, 720, 73), (0, 0, 0)))), (7, (0, 0)))
noncomputable def e_X9_spreads_5_4 : zH 3 := (show zT 3 from (zk_99_zs1_99_e00_X9_spreads_5, (((9, 7, 3145801), (10, 46656, 73)), ((11, 720, 73), (0, 0, 0)))), (7, (0, 0)))
noncomputable abbrev es_X9_spreads_5 : List (zEn 3) := [([zR 1, zR 2, zI 4294978097, zI 0, zI 0, zI 4294967296], e_X9_spreads_5_0), ([zR 1, zR 2, zI 4294978097, zI 0, zI 1, zI 4294967296], e_X9_spreads_5_1), ([zR 1, zR 2, zI 4294978097, zI 0, zI 2, zI 4294967296], e_X9_spreads_5_2), ([zR 1, zR 2, zI 4294978097, zI 0, zI 3, zI 4294967296], e_X9_spreads_5_3), ([zR 1, zR 2, zI 4294978097, zI 1, zI 0, zI 4294967296], e_X9_spreads_5_4)]
theorem we_X9_spreads_5 : zgdR 0 0 (zU) (fun f => zfn 8 (b_X9_spreadsa f)) es_X9_spreads_5 = true := by decide +kernel
theorem ev_X9_spreads_5 : zselfR 0 0 (zU) es_X9_spreads_5 [zR 1, zR 2, zI 4294978097, zI 0, zI 0, zI 4294967296] e_X9_spreads_5_0 (zrk (zU) e_X9_spreads_5_0) = true := by decide +kernel
noncomputable def g_X9_spreads_5 {d : Nat} : List zV → zH d → zP d → Bool := zsmyM [(0, 0), (0, 1), (1, 3), (1, 31), (1, 32), (1, 26), (1, 27)] [zR 1, zR 2, zI 4294978097, zI 0, zI 0, zI 4294967296] e_X9_spreads_5_0 (zU) e_X9_spreads_5_0
theorem mg_X9_spreads_5 {d : Nat} : zMet (d := d) X_X9_spreads yX9_spreads 16 g_X9_spreads_5 := zMet_smM (mr_X9_spreadsa es_X9_spreads_5 we_X9_spreads_5 14 (by decide)) ev_X9_spreads_5
noncomputable def zk_99_zs1_99_e00_X9_spreads_6 : zT 2 := @Prod.mk (zT 1) (zT 1) ((25, 63, bg_107), (0, 12000, zun 40 12000 4294967296)) ((0, 66, bg_4), (8, 6, 4))
noncomputable def e_X9_spreads_6_0 : zH 3 := (show zT 3 from (zk_99_zs1_99_e00_X9_spreads_6, (((9, 7, 4), (10, 46656, 4)), ((11, 720, 4), (0, 0, 0)))), (7, (0, 0)))
noncomputable def e_X9_spreads_6_1 : zH 3 := (show zT 3 from (zk_99_zs1_99_e00_X9_spreads_6, (((9, 7, 1048580), (10, 46656, 4)), ((11, 720, 4), (0, 0, 0)))), (7, (0, 0)))
noncomputable def e_X9_spreads_6_2 : zH 3 := (show zT 3 from (zk_99_zs1_99_e00_X9_spreads_6, (((9, 7, 1048580), (10, 46656, 4)), ((11, 720, 4), (0, 0, 0)))), (7, (0, 0)))
noncomputable def e_X9_spreads_6_3 : zH 3 := (show zT 3 from (zk_99_zs1_99_e00_X9_spreads_6, (((9, 7, 2097156), (10, 46656, 4)), ((11, 720, 4), (0, 0, 0)))), (7, (0, 0)))
noncomputable def e_X9_spreads_6_4 : zH 3 := (show zT 3 from (zk_99_zs1_99_e00_X9_spreads_6, (((9, 7, 2097156), (10, 46656, 4)), ((11, 720, 4), (0, 0, 0)))), (7, (0, 0)))
noncomputable def e_X9_spreads_6_5 : zH 3 := (show zT 3 from (zk_99_zs1_99_e00_X9_spreads_6, (((9, 7, 3145732), (10, 46656, 4)), ((11, 720, 4), (0, 0, 0)))), (7, (0, 0)))
noncomputable def e_X9_spreads_6_6 : zH 3 := (show zT 3 from (zk_99_zs1_99_e00_X9_spreads_6, (((9, 7, 3145732), (10, 46656, 4)), ((11, 720, 4), (0, 0, 0)))), (7, (0, 0)))
noncomputable def e_X9_spreads_6_7 : zH 3 := (show zT 3 from (zk_99_zs1_99_e00_X9_spreads_6, (((9, 7, 4194308), (10, 46656, 4)), ((11, 720, 4), (0, 0, 0)))), (7, (0, 0)))
noncomputable def e_X9_spreads_6_8 : zH 3 := (show zT 3 from (zk_99_zs1_99_e00_X9_spreads_6, (((9, 7, 4194308), (10, 46656, 4)), ((11, 720, 4), (0, 0, 0)))), (7, (0, 0)))
noncomputable abbrev es_X9_spreads_6 : List (zEn 3) := [([zR 1, zR 2, zI 4294978097, zI 0, zI 0, zI 4294967296], e_X9_spreads_6_0), ([zR 1, zR 2, zI 4294978097, zI 0, zI 1, zI 4294967296], e_X9_spreads_6_1), ([zR 1, zR 2, zI 4294978097, zI 1, zI 0, zI 4294967296], e_X9_spreads_6_2), ([zR 1, zR 2, zI 4294978097, zI 1, zI 1, zI 4294967296], e_X9_spreads_6_3), ([zR 1, zR 2, zI 4294978097, zI 2, zI 0, zI 4294967296], e_X9_spreads_6_4), ([zR 1, zR 2, zI 4294978097, zI 2, zI 1, zI 4294967296], e_X9_spreads_6_5), ([zR 1, zR 2, zI 4294978097, zI 3, zI 0, zI 4294967296], e_X9_spreads_6_6), ([zR 1, zR 2, zI 4294978097, zI 3, zI 1, zI 4294967296], e_X9_spreads_6_7), ([zR 1, zR 2, zI 4294978097, zI 4, zI 0, zI 4294967296], e_X9_spreads_6_8)]
theorem we_X9_spreads_6 : zgdR 0 0 (zU) (fun f => zfn 8 (b_X9_spreadsa f)) es_X9_spreads_6 = true := by decide +kernel
theorem ev_X9_spreads_6 : zselfR 0 0 (zU) es_X9_spreads_6 [zR 1, zR 2, zI 4294978097, zI 0, zI 0, zI 4294967296] e_X9_spreads_6_0 (zrk (zU) e_X9_spreads_6_0) = true := by decide +kernel
noncomputable def g_X9_spreads_6 {d : Nat} : List zV → zH d → zP d → Bool := zsmyM [(0, 0), (0, 1), (1, 3), (1, 31), (1, 32), (1, 26), (1, 27)] [zR 1, zR 2, zI 4294978097, zI 0, zI 0, zI 4294967296] e_X9_spreads_6_0 (zU) e_X9_spreads_6_0
theorem mg_X9_spreads_6 {d : Nat} : zMet (d := d) X_X9_spreads yX9_spreads 16 g_X9_spreads_6 := zMet_smM (mr_X9_spreadsa es_X9_spreads_6 we_X9_spreads_6 14 (by decide)) ev_X9_spreads_6
noncomputable def zk_99_zs1_99_e00_X9_spreads_7 : zT 2 := @Prod.mk (zT 1) (zT 1) ((25, 63, bg_108), (0, 12000, zun 40 12000 4294967296)) ((0, 66, bg_4), (8, 6, 11))
noncomputable def e_X9_spreads_7_0 : zH 3 := (show zT 3 from (zk_99_zs1_99_e00_X9_spreads_7, (((9, 7, 11), (10, 46656, 11)), ((11, 720, 11), (0, 0, 0)))), (7, (0, 0)))
noncomputable def e_X9_spreads_7_1 : zH 3 := (show zT 3 from (zk_99_zs1_99_e00_X9_spreads_7, (((9, 7, 1048587), (10, 46656, 11)), ((11, 720, 11), (0, 0, 0)))), (7, (0, 0)))
noncomputable def e_X9_spreads_7_2 : zH 3 := (show zT 3 from (zk_99_zs1_99_e00_X9_spreads_7, (((9, 7, 2097163), (10, 46656, 11)), ((11, 720, 11), (0, 0, 0)))), (7, (0, 0)))
noncomputable def e_X9_spreads_7_3 : zH 3 := (show zT 3 from (zk_99_zs1_99_e00_X9_spreads_7, (((9, 7, 2097163), (10, 46656, 11)), ((11, 720, 11), (0, 0, 0)))), (7, (0, 0)))
noncomputable def e_X9_spreads_7_4 : zH 3 := (show zT 3 from (zk_99_zs1_99_e00_X9_spreads_7, (((9, 7, 3145739), (10, 46656, 11)), ((11, 720, 11), (0, 0, 0)))), (7, (0, 0)))
noncomputable def e_X9_spreads_7_5 : zH 3 := (show zT 3 from (zk_99_zs1_99_e00_X9_spreads_7, (((9, 7, 3145739), (10, 46656, 11)), ((11, 720, 11), (0, 0, 0)))), (7, (0, 0)))
noncomputable def e_X9_spreads_7_6 : zH 3 := (show zT 3 from (zk_99_zs1_99_e00_X9_spreads_7, (((9, 7, 4194315), (10, 46656, 11)), ((11, 720, 11), (0, 0, 0)))), (7, (0, 0)))
noncomputable def e_X9_spreads_7_7 : zH 3 := (show zT 3 from (zk_99_zs1_99_e00_X9_spreads_7, (((9, 7, 4194315), (10, 46656, 11)), ((11, 720, 11), (0, 0, 0)))), (7, (0, 0)))
noncomputable abbrev es_X9_spreads_7 : List (zEn 3) := [([zR 1, zR 2, zI 4294978097, zI 0, zI 0, zI 4294967296], e_X9_spreads_7_0), ([zR 1, zR 2, zI 4294978097, zI 0, zI 1, zI 4294967296], e_X9_spreads_7_1), ([zR 1, zR 2, zI 4294978097, zI 0, zI 2, zI 4294967296], e_X9_spreads_7_2), ([zR 1, zR 2, zI 4294978097, zI 1, zI 0, zI 4294967296], e_X9_spreads_7_3), ([zR 1, zR 2, zI 4294978097, zI 1, zI 1, zI 4294967296], e_X9_spreads_7_4), ([zR 1, zR 2, zI 4294978097, zI 2, zI 0, zI 4294967296], e_X9_spreads_7_5), ([zR 1, zR 2, zI 4294978097, zI 2, zI 1, zI 4294967296], e_X9_spreads_7_6), ([zR 1, zR 2, zI 4294978097, zI 3, zI 0, zI 4294967296], e_X9_spreads_7_7)]
theorem we_X9_spreads_7 : zgdR 0 0 (zU) (fun f => zfn 8 (b_X9_spreadsa f)) es_X9_spreads_7 = true := by decide +kernel
theorem ev_X9_spreads_7 : zselfR 0 0 (zU) es_X9_spreads_7 [zR 1, zR 2, zI 4294978097, zI 0, zI 0, zI 4294967296] e_X9_spreads_7_0 (zrk (zU) e_X9_spreads_7_0) = true := by decide +kernel
noncomputable def g_X9_spreads_7 {d : Nat} : List zV → zH d → zP d → Bool := zsmyM [(0, 0), (0, 1), (1, 3), (1, 31), (1, 32), (1, 26), (1, 27)] [zR 1, zR 2, zI 4294978097, zI 0, zI 0, zI 4294967296] e_X9_spreads_7_0 (zU) e_X9_spreads_7_0
theorem mg_X9_spreads_7 {d : Nat} : zMet (d := d) X_X9_spreads yX9_spreads 16 g_X9_spreads_7 := zMet_smM (mr_X9_spreadsa es_X9_spreads_7 we_X9_spreads_7 14 (by decide)) ev_X9_spreads_7
noncomputable def zk_99_zs1_99_e00_X9_spreads_8 : zT 2 := @Prod.mk (zT 1) (zT 1) ((25, 63, bg_109), (0, 12000, zun 40 12000 4294967296)) ((0, 66, bg_4), (8, 6, 18))
noncomputable def e_X9_spreads_8_0 : zH 3 := (show zT 3 from (zk_99_zs1_99_e00_X9_spreads_8, (((9, 7, 18), (10, 46656, 18)), ((11, 720, 18), (0, 0, 0)))), (7, (0, 0)))
noncomputable def e_X9_spreads_8_1 : zH 3 := (show zT 3 from (zk_99_zs1_99_e00_X9_spreads_8, (((9, 7, 1048594), (10, 46656, 18)), ((11, 720, 18), (0, 0, 0)))), (7, (0, 0)))
noncomputable def e_X9_spreads_8_2 : zH 3 := (show zT 3 from (zk_99_zs1_99_e00_X9_spreads_8, (((9, 7, 2097170), (10, 46656, 18)), ((11, 720, 18), (0, 0, 0)))), (7, (0, 0)))
noncomputable def e_X9_spreads_8_3 : zH 3 := (show zT 3 from (zk_99_zs1_99_e00_X9_spreads_8, (((9, 7, 2097170), (10, 46656, 18)), ((11, 720, 18), (0, 0, 0)))), (7, (0, 0)))
noncomputable def e_X9_spreads_8_4 : zH 3 := (show zT 3 from (zk_99_zs1_99_e00_X9_spreads_8, (((9, 7, 3145746), (10, 46656, 18)), ((11, 720, 18), (0, 0, 0)))), (7, (0, 0)))
noncomputable def e_X9_spreads_8_5 : zH 3 := (show zT 3 from (zk_99_zs1_99_e00_X9_spreads_8, (((9, 7, 4194322), (10, 46656, 18)), ((11, 720, 18), (0, 0, 0)))), (7, (0, 0)))
noncomputable def e_X9_spreads_8_6 : zH 3 := (show zT 3 from (zk_99_zs1_99_e00_X9_spreads_8, (((9, 7, 4194322), (10, 46656, 18)), ((11, 720, 18), (0, 0, 0)))), (7, (0, 0)))
noncomputable abbrev es_X9_spreads_8 : List (zEn 3) := [([zR 1, zR 2, zI 4294978097, zI 0, zI 0, zI 4294967296], e_X9_spreads_8_0), ([zR 1, zR 2, zI 4294978097, zI 0, zI 1, zI 4294967296], e_X9_spreads_8_1), ([zR 1, zR 2, zI 4294978097, zI 0, zI 2, zI 4294967296], e_X9_spreads_8_2), ([zR 1, zR 2, zI 4294978097, zI 1, zI 0, zI 4294967296], e_X9_spreads_8_3), ([zR 1, zR 2, zI 4294978097, zI 1, zI 1, zI 4294967296], e_X9_spreads_8_4), ([zR 1, zR 2, zI 4294978097, zI 1, zI 2, zI 4294967296], e_X9_spreads_8_5), ([zR 1, zR 2, zI 4294978097, zI 2, zI 0, zI 4294967296], e_X9_spreads_8_6)]
theorem we_X9_spreads_8 : zgdR 0 0 (zU) (fun f => zfn 8 (b_X9_spreadsa f)) es_X9_spreads_8 = true := by decide +kernel
theorem ev_X9_spreads_8 : zselfR 0 0 (zU) es_X9_spreads_8 [zR 1, zR 2, zI 4294978097, zI 0, zI 0, zI 4294967296] e_X9_spreads_8_0 (zrk (zU) e_X9_spreads_8_0) = true := by decide +kernel
noncomputable def g_X9_spreads_8 {d : Nat} : List zV → zH d → zP d → Bool := zsmyM [(0, 0), (0, 1), (1, 3), (1, 31), (1, 32), (1, 26), (1, 27)] [zR 1, zR 2, zI 4294978097, zI 0, zI 0, zI 4294967296] e_X9_spreads_8_0 (zU) e_X9_spreads_8_0
theorem mg_X9_spreads_8 {d : Nat} : zMet (d := d) X_X9_spreads yX9_spreads 16 g_X9_spreads_8 := zMet_smM (mr_X9_spreadsa es_X9_spreads_8 we_X9_spreads_8 14 (by decide)) ev_X9_spreads_8
noncomputable def zk_99_zs1_99_e00_X9_spreads_9 : zT 2 := @Prod.mk (zT 1) (zT 1) ((25, 63, bg_110), (0, 12000, zun 40 12000 4294967296)) ((0, 66, bg_4), (8, 6, 74))
noncomputable def e_X9_spreads_9_0 : zH 3 := (show zT 3 from (zk_99_zs1_99_e00_X9_spreads_9, (((9, 7, 74), (10, 46656, 74)), ((11, 720, 74), (0, 0, 0)))), (7, (0, 0)))
noncomputable def e_X9_spreads_9_1 : zH 3 := (show zT 3 from (zk_99_zs1_99_e00_X9_spreads_9, (((9, 7, 1048650), (10, 46656, 74)), ((11, 720, 74), (0, 0, 0)))), (7, (0, 0)))
noncomputable def e_X9_spreads_9_2 : zH 3 := (show zT 3 from (zk_99_zs1_99_e00_X9_spreads_9, (((9, 7, 2097226), (10, 46656, 74)), ((11, 720, 74), (0, 0, 0)))), (7, (0, 0)))
noncomputable def e_X9_spreads_9_3 : zH 3 := (show zT 3 from (zk_99_zs1_99_e00_X9_spreads_9, (((9, 7, 3145802), (10, 46656, 74)), ((11, 720, 74), (0, 0, 0)))), (7, (0, 0)))
noncomputable def e_X9_spreads_9_4 : zH 3 := (show zT 3 from (zk_99_zs1_99_e00_X9_spreads_9, (((9, 7, 3145802), (10, 46656, 74)), ((11, 720, 74), (0, 0, 0)))), (7, (0, 0)))
noncomputable def e_X9_spreads_9_5 : zH 3 := (show zT 3 from (zk_99_zs1_99_e00_X9_spreads_9, (((9, 7, 4194378), (10, 46656, 74)), ((11, 720, 74), (0, 0, 0)))), (7, (0, 0)))
noncomputable def e_X9_spreads_9_6 : zH 3 := (show zT 3 from (zk_99_zs1_99_e00_X9_spreads_9, (((9, 7, 4194378), (10, 46656, 74)), ((11, 720, 74), (0, 0, 0)))), (7, (0, 0)))
noncomputable abbrev es_X9_spreads_9 : List (zEn 3) := [([zR 1, zR 2, zI 4294978097, zI 0, zI 0, zI 4294967296], e_X9_spreads_9_0), ([zR 1, zR 2, zI 4294978097, zI 0, zI 1, zI 4294967296], e_X9_spreads_9_1), ([zR 1, zR 2, zI 4294978097, zI 0, zI 2, zI 4294967296], e_X9_spreads_9_2), ([zR 1, zR 2, zI 4294978097, zI 0, zI 3, zI 4294967296], e_X9_spreads_9_3), ([zR 1, zR 2, zI 4294978097, zI 1, zI 0, zI 4294967296], e_X9_spreads_9_4), ([zR 1, zR 2, zI 4294978097, zI 1, zI 1, zI 4294967296], e_X9_spreads_9_5), ([zR 1, zR 2, zI 4294978097, zI 2, zI 0, zI 4294967296], e_X9_spreads_9_6)]
theorem we_X9_spreads_9 : zgdR 0 0 (zU) (fun f => zfn 8 (b_X9_spreadsa f)) es_X9_spreads_9 = true := by decide +kernel
theorem ev_X9_spreads_9 : zselfR 0 0 (zU) es_X9_spreads_9 [zR 1, zR 2, zI 4294978097, zI 0, zI 0, zI 4294967296] e_X9_spreads_9_0 (zrk (zU) e_X9_spreads_9_0) = true := by decide +kernel
noncomputable def g_X9_spreads_9 {d : Nat} : List zV → zH d → zP d → Bool := zsmyM [(0, 0), (0, 1), (1, 3), (1, 31), (1, 32), (1, 26), (1, 27)] [zR 1, zR 2, zI 4294978097, zI 0, zI 0, zI 4294967296] e_X9_spreads_9_0 (zU) e_X9_spreads_9_0
theorem mg_X9_spreads_9 {d : Nat} : zMet (d := d) X_X9_spreads yX9_spreads 16 g_X9_spreads_9 := zMet_smM (mr_X9_spreadsa es_X9_spreads_9 we_X9_spreads_9 14 (by decide)) ev_X9_spreads_9
noncomputable def zk_99_zs1_99_e00_X9_spreads_10 : zT 2 := @Prod.mk (zT 1) (zT 1) ((25, 63, bg_111), (0, 12000, zun 40 12000 4294967296)) ((0, 66, bg_4), (8, 6, 585))
noncomputable def e_X9_spreads_10_0 : zH 3 := (show zT 3 from (zk_99_zs1_99_e00_X9_spreads_10, (((9, 7, 585), (10, 46656, 585)), ((11, 720, 585), (0, 0, 0)))), (7, (0, 0)))
noncomputable def e_X9_spreads_10_1 : zH 3 := (show zT 3 from (zk_99_zs1_99_e00_X9_spreads_10, (((9, 7, 1049161), (10, 46656, 585)), ((11, 720, 585), (0, 0, 0)))), (7, (0, 0)))
noncomputable def e_X9_spreads_10_2 : zH 3 := (show zT 3 from (zk_99_zs1_99_e00_X9_spreads_10, (((9, 7, 2097737), (10, 46656, 585)), ((11, 720, 585), (0, 0, 0)))), (7, (0, 0)))
noncomputable def e_X9_spreads_10_3 : zH 3 := (show zT 3 from (zk_99_zs1_99_e00_X9_spreads_10, (((9, 7, 3146313), (10, 46656, 585)), ((11, 720, 585), (0, 0, 0)))), (7, (0, 0)))
noncomputable def e_X9_spreads_10_4 : zH 3 := (show zT 3 from (zk_99_zs1_99_e00_X9_spreads_10, (((9, 7, 4194889), (10, 46656, 585)), ((11, 720, 585), (0, 0, 0)))), (7, (0, 0)))
noncomputable def e_X9_spreads_10_5 : zH 3 := (show zT 3 from (zk_99_zs1_99_e00_X9_spreads_10, (((9, 7, 4194889), (10, 46656, 585)), ((11, 720, 585), (0, 0, 0)))), (7, (0, 0)))
noncomputable abbrev es_X9_spreads_10 : List (zEn 3) := [([zR 1, zR 2, zI 4294978097, zI 0, zI 0, zI 4294967296], e_X9_spreads_10_0), ([zR 1, zR 2, zI 4294978097, zI 0, zI 1, zI 4294967296], e_X9_spreads_10_1), ([zR 1, zR 2, zI 4294978097, zI 0, zI 2, zI 4294967296], e_X9_spreads_10_2), ([zR 1, zR 2, zI 4294978097, zI 0, zI 3, zI 4294967296], e_X9_spreads_10_3), ([zR 1, zR 2, zI 4294978097, zI 0, zI 4, zI 4294967296], e_X9_spreads_10_4), ([zR 1, zR 2, zI 4294978097, zI 1, zI 0, zI 4294967296], e_X9_spreads_10_5)]
theorem we_X9_spreads_10 : zgdR 0 0 (zU) (fun f => zfn 8 (b_X9_spreadsa f)) es_X9_spreads_10 = true := by decide +kernel
theorem ev_X9_spreads_10 : zselfR 0 0 (zU) es_X9_spreads_10 [zR 1, zR 2, zI 4294978097, zI 0, zI 0, zI 4294967296] e_X9_spreads_10_0 (zrk (zU) e_X9_spreads_10_0) = true := by decide +kernel
noncomputable def g_X9_spreads_10 {d : Nat} : List zV → zH d → zP d → Bool := zsmyM [(0, 0), (0, 1), (1, 3), (1, 31), (1, 32), (1, 26), (1, 27)] [zR 1, zR 2, zI 4294978097, zI 0, zI 0, zI 4294967296] e_X9_spreads_10_0 (zU) e_X9_spreads_10_0
theorem mg_X9_spreads_10 {d : Nat} : zMet (d := d) X_X9_spreads yX9_spreads 16 g_X9_spreads_10 := zMet_smM (mr_X9_spreadsa es_X9_spreads_10 we_X9_spreads_10 14 (by decide)) ev_X9_spreads_10
noncomputable def zk_99_zs1_99_e00_X9_spreads_11 : zT 2 := @Prod.mk (zT 1) (zT 1) ((25, 63, bg_112), (0, 12000, zun 40 12000 4294967296)) ((0, 66, bg_5), (8, 6, 5))
noncomputable def e_X9_spreads_11_0 : zH 3 := (show zT 3 from (zk_99_zs1_99_e00_X9_spreads_11, (((9, 7, 5), (10, 46656, 5)), ((11, 720, 5), (0, 0, 0)))), (7, (0, 0)))
noncomputable def e_X9_spreads_11_1 : zH 3 := (show zT 3 from (zk_99_zs1_99_e00_X9_spreads_11, (((9, 7, 1048581), (10, 46656, 5)), ((11, 720, 5), (0, 0, 0)))), (7, (0, 0)))
noncomputable def e_X9_spreads_11_2 : zH 3 := (show zT 3 from (zk_99_zs1_99_e00_X9_spreads_11, (((9, 7, 1048581), (10, 46656, 5)), ((11, 720, 5), (0, 0, 0)))), (7, (0, 0)))
noncomputable def e_X9_spreads_11_3 : zH 3 := (show zT 3 from (zk_99_zs1_99_e00_X9_spreads_11, (((9, 7, 2097157), (10, 46656, 5)), ((11, 720, 5), (0, 0, 0)))), (7, (0, 0)))
noncomputable def e_X9_spreads_11_4 : zH 3 := (show zT 3 from (zk_99_zs1_99_e00_X9_spreads_11, (((9, 7, 2097157), (10, 46656, 5)), ((11, 720, 5), (0, 0, 0)))), (7, (0, 0)))
noncomputable def e_X9_spreads_11_5 : zH 3 := (show zT 3 from (zk_99_zs1_99_e00_X9_spreads_11, (((9, 7, 3145733), (10, 46656, 5)), ((11, 720, 5), (0, 0, 0)))), (7, (0, 0)))
noncomputable def e_X9_spreads_11_6 : zH 3 := (show zT 3 from (zk_99_zs1_99_e00_X9_spreads_11, (((9, 7, 3145733), (10, 46656, 5)), ((11, 720, 5), (0, 0, 0)))), (7, (0, 0)))
noncomputable def e_X9_spreads_11_7 : zH 3 := (show zT 3 from (zk_99_zs1_99_e00_X9_spreads_11, (((9, 7, 4194309), (10, 46656, 5)), ((11, 720, 5), (0, 0, 0)))), (7, (0, 0)))
noncomputable def e_X9_spreads_11_8 : zH 3 := (show zT 3 from (zk_99_zs1_99_e00_X9_spreads_11, (((9, 7, 4194309), (10, 46656, 5)), ((11, 720, 5), (0, 0, 0)))), (7, (0, 0)))
noncomputable def e_X9_spreads_11_9 : zH 3 := (show zT 3 from (zk_99_zs1_99_e00_X9_spreads_11, (((9, 7, 5242885), (10, 46656, 5)), ((11, 720, 5), (0, 0, 0)))), (7, (0, 0)))
noncomputable def e_X9_spreads_11_10 : zH 3 := (show zT 3 from (zk_99_zs1_99_e00_X9_spreads_11, (((9, 7, 5242885), (10, 46656, 5)), ((11, 720, 5), (0, 0, 0)))), (7, (0, 0)))
noncomputable abbrev es_X9_spreads_11 : List (zEn 3) := [([zR 1, zR 2, zI 4294978097, zI 0, zI 0, zI 4294967296], e_X9_spreads_11_0), ([zR 1, zR 2, zI 4294978097, zI 0, zI 1, zI 4294967296], e_X9_spreads_11_1), ([zR 1, zR 2, zI 4294978097, zI 1, zI 0, zI 4294967296], e_X9_spreads_11_2), ([zR 1, zR 2, zI 4294978097, zI 1, zI 1, zI 4294967296], e_X9_spreads_11_3), ([zR 1, zR 2, zI 4294978097, zI 2, zI 0, zI 4294967296], e_X9_spreads_11_4), ([zR 1, zR 2, zI 4294978097, zI 2, zI 1, zI 4294967296], e_X9_spreads_11_5), ([zR 1, zR 2, zI 4294978097, zI 3, zI 0, zI 4294967296], e_X9_spreads_11_6), ([zR 1, zR 2, zI 4294978097, zI 3, zI 1, zI 4294967296], e_X9_spreads_11_7), ([zR 1, zR 2, zI 4294978097, zI 4, zI 0, zI 4294967296], e_X9_spreads_11_8), ([zR 1, zR 2, zI 4294978097, zI 4, zI 1, zI 4294967296], e_X9_spreads_11_9), ([zR 1, zR 2, zI 4294978097, zI 5, zI 0, zI 4294967296], e_X9_spreads_11_10)]
theorem we_X9_spreads_11 : zgdR 0 0 (zU) (fun f => zfn 8 (b_X9_spreadsa f)) es_X9_spreads_11 = true := by decide +kernel
theorem ev_X9_spreads_11 : zselfR 0 0 (zU) es_X9_spreads_11 [zR 1, zR 2, zI 4294978097, zI 0, zI 0, zI 4294967296] e_X9_spreads_11_0 (zrk (zU) e_X9_spreads_11_0) = true := by decide +kernel
noncomputable def g_X9_spreads_11 {d : Nat} : List zV → zH d → zP d → Bool := zsmyM [(0, 0), (0, 1), (1, 3), (1, 31), (1, 32), (1, 26), (1, 27)] [zR 1, zR 2, zI 4294978097, zI 0, zI 0, zI 4294967296] e_X9_spreads_11_0 (zU) e_X9_spreads_11_0
theorem mg_X9_spreads_11 {d : Nat} : zMet (d := d) X_X9_spreads yX9_spreads 16 g_X9_spreads_11 := zMet_smM (mr_X9_spreadsa es_X9_spreads_11 we_X9_spreads_11 14 (by decide)) ev_X9_spreads_11
noncomputable def zk_99_zs1_99_e00_X9_spreads_12 : zT 2 := @Prod.mk (zT 1) (zT 1) ((25, 63, bg_113), (0, 12000, zun 40 12000 4294967296)) ((0, 66, bg_5), (8, 6, 12))
noncomputable def e_X9_spreads_12_0 : zH 3 := (show zT 3 from (zk_99_zs1_99_e00_X9_spreads_12, (((9, 7, 12), (10, 46656, 12)), ((11, 720, 12), (0, 0, 0)))), (7, (0, 0)))
noncomputable def e_X9_spreads_12_1 : zH 3 := (show zT 3 from (zk_99_zs1_99_e00_X9_spreads_12, (((9, 7, 1048588), (10, 46656, 12)), ((11, 720, 12), (0, 0, 0)))), (7, (0, 0)))
noncomputable def e_X9_spreads_12_2 : zH 3 := (show zT 3 from (zk_99_zs1_99_e00_X9_spreads_12, (((9, 7, 2097164), (10, 46656, 12)), ((11, 720, 12), (0, 0, 0)))), (7, (0, 0)))
noncomputable def e_X9_spreads_12_3 : zH 3 := (show zT 3 from (zk_99_zs1_99_e00_X9_spreads_12, (((9, 7, 2097164), (10, 46656, 12)), ((11, 720, 12), (0, 0, 0)))), (7, (0, 0)))
noncomputable def e_X9_spreads_12_4 : zH 3 := (show zT 3 from (zk_99_zs1_99_e00_X9_spreads_12, (((9, 7, 3145740), (10, 46656, 12)), ((11, 720, 12), (0, 0, 0)))), (7, (0, 0)))
noncomputable def e_X9_spreads_12_5 : zH 3 := (show zT 3 from (zk_99_zs1_99_e00_X9_spreads_12, (((9, 7, 3145740), (10, 46656, 12)), ((11, 720, 12), (0, 0, 0)))), (7, (0, 0)))
noncomputable def e_X9_spreads_12_6 : zH 3 := (show zT 3 from (zk_99_zs1_99_e00_X9_spreads_12, (((9, 7, 4194316), (10, 46656, 12)), ((11, 720, 12), (0, 0, 0)))), (7, (0, 0)))
noncomputable def e_X9_spreads_12_7 : zH 3 := (show zT 3 from (zk_99_zs1_99_e00_X9_spreads_12, (((9, 7, 4194316), (10, 46656, 12)), ((11, 720, 12), (0, 0, 0)))), (7, (0, 0)))
noncomputable def e_X9_spreads_12_8 : zH 3 := (show zT 3 from (zk_99_zs1_99_e00_X9_spreads_12, (((9, 7, 5242892), (10, 46656, 12)), ((11, 720, 12), (0, 0, 0)))), (7, (0, 0)))
noncomputable def e_X9_spreads_12_9 : zH 3 := (show zT 3 from (zk_99_zs1_99_e00_X9_spreads_12, (((9, 7, 5242892), (10, 46656, 12)), ((11, 720, 12), (0, 0, 0)))), (7, (0, 0)))
noncomputable abbrev es_X9_spreads_12 : List (zEn 3) := [([zR 1, zR 2, zI 4294978097, zI 0, zI 0, zI 4294967296], e_X9_spreads_12_0), ([zR 1, zR 2, zI 4294978097, zI 0, zI 1, zI 4294967296], e_X9_spreads_12_1), ([zR 1, zR 2, zI 4294978097, zI 0, zI 2, zI 4294967296], e_X9_spreads_12_2), ([zR 1, zR 2, zI 4294978097, zI 1, zI 0, zI 4294967296], e_X9_spreads_12_3), ([zR 1, zR 2, zI 4294978097, zI 1, zI 1, zI 4294967296], e_X9_spreads_12_4), ([zR 1, zR 2, zI 4294978097, zI 2, zI 0, zI 4294967296], e_X9_spreads_12_5), ([zR 1, zR 2, zI 4294978097, zI 2, zI 1, zI 4294967296], e_X9_spreads_12_6), ([zR 1, zR 2, zI 4294978097, zI 3, zI 0, zI 4294967296], e_X9_spreads_12_7), ([zR 1, zR 2, zI 4294978097, zI 3, zI 1, zI 4294967296], e_X9_spreads_12_8), ([zR 1, zR 2, zI 4294978097, zI 4, zI 0, zI 4294967296], e_X9_spreads_12_9)]
theorem we_X9_spreads_12 : zgdR 0 0 (zU) (fun f => zfn 8 (b_X9_spreadsa f)) es_X9_spreads_12 = true := by decide +kernel
theorem ev_X9_spreads_12 : zselfR 0 0 (zU) es_X9_spreads_12 [zR 1, zR 2, zI 4294978097, zI 0, zI 0, zI 4294967296] e_X9_spreads_12_0 (zrk (zU) e_X9_spreads_12_0) = true := by decide +kernel
noncomputable def g_X9_spreads_12 {d : Nat} : List zV → zH d → zP d → Bool := zsmyM [(0, 0), (0, 1), (1, 3), (1, 31), (1, 32), (1, 26), (1, 27)] [zR 1, zR 2, zI 4294978097, zI 0, zI 0, zI 4294967296] e_X9_spreads_12_0 (zU) e_X9_spreads_12_0
theorem mg_X9_spreads_12 {d : Nat} : zMet (d := d) X_X9_spreads yX9_spreads 16 g_X9_spreads_12 := zMet_smM (mr_X9_spreadsa es_X9_spreads_12 we_X9_spreads_12 14 (by decide)) ev_X9_spreads_12
noncomputable def zk_99_zs1_99_e00_X9_spreads_13 : zT 2 := @Prod.mk (zT 1) (zT 1) ((25, 63, bg_114), (0, 12000, zun 40 12000 4294967296)) ((0, 66, bg_5), (8, 6, 19))
noncomputable def e_X9_spreads_13_0 : zH 3 := (show zT 3 from (zk_99_zs1_99_e00_X9_spreads_13, (((9, 7, 19), (10, 46656, 19)), ((11, 720, 19), (0, 0, 0)))), (7, (0, 0)))
noncomputable def e_X9_spreads_13_1 : zH 3 := (show zT 3 from (zk_99_zs1_99_e00_X9_spreads_13, (((9, 7, 1048595), (10, 46656, 19)), ((11, 720, 19), (0, 0, 0)))), (7, (0, 0)))
noncomputable def e_X9_spreads_13_2 : zH 3 := (show zT 3 from (zk_99_zs1_99_e00_X9_spreads_13, (((9, 7, 2097171), (10, 46656, 19)), ((11, 720, 19), (0, 0, 0)))), (7, (0, 0)))
noncomputable def e_X9_spreads_13_3 : zH 3 := (show zT 3 from (zk_99_zs1_99_e00_X9_spreads_13, (((9, 7, 2097171), (10, 46656, 19)), ((11, 720, 19), (0, 0, 0)))), (7, (0, 0)))
noncomputable def e_X9_spreads_13_4 : zH 3 := (show zT 3 from (zk_99_zs1_99_e00_X9_spreads_13, (((9, 7, 3145747), (10, 46656, 19)), ((11, 720, 19), (0, 0, 0)))), (7, (0, 0)))
noncomputable def e_X9_spreads_13_5 : zH 3 := (show zT 3 from (zk_99_zs1_99_e00_X9_spreads_13, (((9, 7, 4194323), (10, 46656, 19)), ((11, 720, 19), (0, 0, 0)))), (7, (0, 0)))
noncomputable def e_X9_spreads_13_6 : zH 3 := (show zT 3 from (zk_99_zs1_99_e00_X9_spreads_13, (((9, 7, 4194323), (10, 46656, 19)), ((11, 720, 19), (0, 0, 0)))), (7, (0, 0)))
noncomputable def e_X9_spreads_13_7 : zH 3 := (show zT 3 from (zk_99_zs1_99_e00_X9_spreads_13, (((9, 7, 5242899), (10, 46656, 19)), ((11, 720, 19), (0, 0, 0)))), (7, (0, 0)))
noncomputable def e_X9_spreads_13_8 : zH 3 := (show zT 3 from (zk_99_zs1_99_e00_X9_spreads_13, (((9, 7, 5242899), (10, 46656, 19)), ((11, 720, 19), (0, 0, 0)))), (7, (0, 0)))
noncomputable abbrev es_X9_spreads_13 : List (zEn 3) := [([zR 1, zR 2, zI 4294978097, zI 0, zI 0, zI 4294967296], e_X9_spreads_13_0), ([zR 1, zR 2, zI 4294978097, zI 0, zI 1, zI 4294967296], e_X9_spreads_13_1), ([zR 1, zR 2, zI 4294978097, zI 0, zI 2, zI 4294967296], e_X9_spreads_13_2), ([zR 1, zR 2, zI 4294978097, zI 1, zI 0, zI 4294967296], e_X9_spreads_13_3), ([zR 1, zR 2, zI 4294978097, zI 1, zI 1, zI 4294967296], e_X9_spreads_13_4), ([zR 1, zR 2, zI 4294978097, zI 1, zI 2, zI 4294967296], e_X9_spreads_13_5), ([zR 1, zR 2, zI 4294978097, zI 2, zI 0, zI 4294967296], e_X9_spreads_13_6), ([zR 1, zR 2, zI 4294978097, zI 2, zI 1, zI 4294967296], e_X9_spreads_13_7), ([zR 1, zR 2, zI 4294978097, zI 3, zI 0, zI 4294967296], e_X9_spreads_13_8)]
theorem we_X9_spreads_13 : zgdR 0 0 (zU) (fun f => zfn 8 (b_X9_spreadsa f)) es_X9_spreads_13 = true := by decide +kernel
theorem ev_X9_spreads_13 : zselfR 0 0 (zU) es_X9_spreads_13 [zR 1, zR 2, zI 4294978097, zI 0, zI 0, zI 4294967296] e_X9_spreads_13_0 (zrk (zU) e_X9_spreads_13_0) = true := by decide +kernel
noncomputable def g_X9_spreads_13 {d : Nat} : List zV → zH d → zP d → Bool := zsmyM [(0, 0), (0, 1), (1, 3), (1, 31), (1, 32), (1, 26), (1, 27)] [zR 1, zR 2, zI 4294978097, zI 0, zI 0, zI 4294967296] e_X9_spreads_13_0 (zU) e_X9_spreads_13_0
theorem mg_X9_spreads_13 {d : Nat} : zMet (d := d) X_X9_spreads yX9_spreads 16 g_X9_spreads_13 := zMet_smM (mr_X9_spreadsa es_X9_spreads_13 we_X9_spreads_13 14 (by decide)) ev_X9_spreads_13
noncomputable def zk_99_zs1_99_e00_X9_spreads_14 : zT 2 := @Prod.mk (zT 1) (zT 1) ((25, 63, bg_115), (0, 12000, zun 40 12000 4294967296)) ((0, 66, bg_5), (8, 6, 75))
noncomputable def e_X9_spreads_14_0 : zH 3 := (show zT 3 from (zk_99_zs1_99_e00_X9_spreads_14, (((9, 7, 75), (10, 46656, 75)), ((11, 720, 75), (0, 0, 0)))), (7, (0, 0)))
noncomputable def e_X9_spreads_14_1 : zH 3 := (show zT 3 from (zk_99_zs1_99_e00_X9_spreads_14, (((9, 7, 1048651), (10, 46656, 75)), ((11, 720, 75), (0, 0, 0)))), (7, (0, 0)))
noncomputable def e_X9_spreads_14_2 : zH 3 := (show zT 3 from (zk_99_zs1_99_e00_X9_spreads_14, (((9, 7, 2097227), (10, 46656, 75)), ((11, 720, 75), (0, 0, 0)))), (7, (0, 0)))
noncomputable def e_X9_spreads_14_3 : zH 3 := (show zT 3 from (zk_99_zs1_99_e00_X9_spreads_14, (((9, 7, 3145803), (10, 46656, 75)), ((11, 720, 75), (0, 0, 0)))), (7, (0, 0)))
noncomputable def e_X9_spreads_14_4 : zH 3 := (show zT 3 from (zk_99_zs1_99_e00_X9_spreads_14, (((9, 7, 3145803), (10, 46656, 75)), ((11, 720, 75), (0, 0, 0)))), (7, (0, 0)))
noncomputable def e_X9_spreads_14_5 : zH 3 := (show zT 3 from (zk_99_zs1_99_e00_X9_spreads_14, (((9, 7, 4194379), (10, 46656, 75)), ((11, 720, 75), (0, 0, 0)))), (7, (0, 0)))
noncomputable def e_X9_spreads_14_6 : zH 3 := (show zT 3 from (zk_99_zs1_99_e00_X9_spreads_14, (((9, 7, 4194379), (10, 46656, 75)), ((11, 720, 75), (0, 0, 0)))), (7, (0, 0)))
noncomputable def e_X9_spreads_14_7 : zH 3 := (show zT 3 from (zk_99_zs1_99_e00_X9_spreads_14, (((9, 7, 5242955), (10, 46656, 75)), ((11, 720, 75), (0, 0, 0)))), (7, (0, 0)))
noncomputable def e_X9_spreads_14_8 : zH 3 := (show zT 3 from (zk_99_zs1_99_e00_X9_spreads_14, (((9, 7, 5242955), (10, 46656, 75)), ((11, 720, 75), (0, 0, 0)))), (7, (0, 0)))
noncomputable abbrev es_X9_spreads_14 : List (zEn 3) := [([zR 1, zR 2, zI 4294978097, zI 0, zI 0, zI 4294967296], e_X9_spreads_14_0), ([zR 1, zR 2, zI 4294978097, zI 0, zI 1, zI 4294967296], e_X9_spreads_14_1), ([zR 1, zR 2, zI 4294978097, zI 0, zI 2, zI 4294967296], e_X9_spreads_14_2), ([zR 1, zR 2, zI 4294978097, zI 0, zI 3, zI 4294967296], e_X9_spreads_14_3), ([zR 1, zR 2, zI 4294978097, zI 1, zI 0, zI 4294967296], e_X9_spreads_14_4), ([zR 1, zR 2, zI 4294978097, zI 1, zI 1, zI 4294967296], e_X9_spreads_14_5), ([zR 1, zR 2, zI 4294978097, zI 2, zI 0, zI 4294967296], e_X9_spreads_14_6), ([zR 1, zR 2, zI 4294978097, zI 2, zI 1, zI 4294967296], e_X9_spreads_14_7), ([zR 1, zR 2, zI 4294978097, zI 3, zI 0, zI 4294967296], e_X9_spreads_14_8)]
theorem we_X9_spreads_14 : zgdR 0 0 (zU) (fun f => zfn 8 (b_X9_spreadsa f)) es_X9_spreads_14 = true := by decide +kernel
theorem ev_X9_spreads_14 : zselfR 0 0 (zU) es_X9_spreads_14 [zR 1, zR 2, zI 4294978097, zI 0, zI 0, zI 4294967296] e_X9_spreads_14_0 (zrk (zU) e_X9_spreads_14_0) = true := by decide +kernel
noncomputable def g_X9_spreads_14 {d : Nat} : List zV → zH d → zP d → Bool := zsmyM [(0, 0), (0, 1), (1, 3), (1, 31), (1, 32), (1, 26), (1, 27)] [zR 1, zR 2, zI 4294978097, zI 0, zI 0, zI 4294967296] e_X9_spreads_14_0 (zU) e_X9_spreads_14_0
theorem mg_X9_spreads_14 {d : Nat} : zMet (d := d) X_X9_spreads yX9_spreads 16 g_X9_spreads_14 := zMet_smM (mr_X9_spreadsa es_X9_spreads_14 we_X9_spreads_14 14 (by decide)) ev_X9_spreads_14
noncomputable def zk_99_zs1_99_e00_X9_spreads_15 : zT 2 := @Prod.mk (zT 1) (zT 1) ((25, 63, bg_116), (0, 12000, zun 40 12000 4294967296)) ((0, 66, bg_5), (8, 6, 82))
noncomputable def e_X9_spreads_15_0 : zH 3 := (show zT 3 from (zk_99_zs1_99_e00_X9_spreads_15, (((9, 7, 82), (10, 46656, 82)), ((11, 720, 82), (0, 0, 0)))), (7, (0, 0)))
noncomputable def e_X9_spreads_15_1 : zH 3 := (show zT 3 from (zk_99_zs1_99_e00_X9_spreads_15, (((9, 7, 1048658), (10, 46656, 82)), ((11, 720, 82), (0, 0, 0)))), (7, (0, 0)))
noncomputable def e_X9_spreads_15_2 : zH 3 := (show zT 3 from (zk_99_zs1_99_e00_X9_spreads_15, (((9, 7, 2097234), (10, 46656, 82)), ((11, 720, 82), (0, 0, 0)))), (7, (0, 0)))
noncomputable def e_X9_spreads_15_3 : zH 3 := (show zT 3 from (zk_99_zs1_99_e00_X9_spreads_15, (((9, 7, 3145810), (10, 46656, 82)), ((11, 720, 82), (0, 0, 0)))), (7, (0, 0)))
noncomputable def e_X9_spreads_15_4 : zH 3 := (show zT 3 from (zk_99_zs1_99_e00_X9_spreads_15, (((9, 7, 3145810), (10, 46656, 82)), ((11, 720, 82), (0, 0, 0)))), (7, (0, 0)))
noncomputable def e_X9_spreads_15_5 : zH 3 := (show zT 3 from (zk_99_zs1_99_e00_X9_spreads_15, (((9, 7, 4194386), (10, 46656, 82)), ((11, 720, 82), (0, 0, 0)))), (7, (0, 0)))
noncomputable def e_X9_spreads_15_6 : zH 3 := (show zT 3 from (zk_99_zs1_99_e00_X9_spreads_15, (((9, 7, 5242962), (10, 46656, 82)), ((11, 720, 82), (0, 0, 0)))), (7, (0, 0)))
noncomputable def e_X9_spreads_15_7 : zH 3 := (show zT 3 from (zk_99_zs1_99_e00_X9_spreads_15, (((9, 7, 5242962), (10, 46656, 82)), ((11, 720, 82), (0, 0, 0)))), (7, (0, 0)))
noncomputable abbrev es_X9_spreads_15 : List (zEn 3) := [([zR 1, zR 2, zI 4294978097, zI 0, zI 0, zI 4294967296], e_X9_spreads_15_0), ([zR 1, zR 2, zI 4294978097, zI 0, zI 1, zI 4294967296], e_X9_spreads_15_1), ([zR 1, zR 2, zI 4294978097, zI 0, zI 2, zI 4294967296], e_X9_spreads_15_2), ([zR 1, zR 2, zI 4294978097, zI 0, zI 3, zI 4294967296], e_X9_spreads_15_3), ([zR 1, zR 2, zI 4294978097, zI 1, zI 0, zI 4294967296], e_X9_spreads_15_4), ([zR 1, zR 2, zI 4294978097, zI 1, zI 1, zI 4294967296], e_X9_spreads_15_5), ([zR 1, zR 2, zI 4294978097, zI 1, zI 2, zI 4294967296], e_X9_spreads_15_6), ([zR 1, zR 2, zI 4294978097, zI 2, zI 0, zI 4294967296], e_X9_spreads_15_7)]
theorem we_X9_spreads_15 : zgdR 0 0 (zU) (fun f => zfn 8 (b_X9_spreadsa f)) es_X9_spreads_15 = true := by decide +kernel
theorem ev_X9_spreads_15 : zselfR 0 0 (zU) es_X9_spreads_15 [zR 1, zR 2, zI 4294978097, zI 0, zI 0, zI 4294967296] e_X9_spreads_15_0 (zrk (zU) e_X9_spreads_15_0) = true := by decide +kernel
noncomputable def g_X9_spreads_15 {d : Nat} : List zV → zH d → zP d → Bool := zsmyM [(0, 0), (0, 1), (1, 3), (1, 31), (1, 32), (1, 26), (1, 27)] [zR 1, zR 2, zI 4294978097, zI 0, zI 0, zI 4294967296] e_X9_spreads_15_0 (zU) e_X9_spreads_15_0
theorem mg_X9_spreads_15 {d : Nat} : zMet (d := d) X_X9_spreads yX9_spreads 16 g_X9_spreads_15 := zMet_smM (mr_X9_spreadsa es_X9_spreads_15 we_X9_spreads_15 14 (by decide)) ev_X9_spreads_15
noncomputable def zk_99_zs1_99_e00_X9_spreads_16 : zT 2 := @Prod.mk (zT 1) (zT 1) ((25, 63, bg_117), (0, 12000, zun 40 12000 4294967296)) ((0, 66, bg_5), (8, 6, 586))
noncomputable def e_X9_spreads_16_0 : zH 3 := (show zT 3 from (zk_99_zs1_99_e00_X9_spreads_16, (((9, 7, 586), (10, 46656, 586)), ((11, 720, 586), (0, 0, 0)))), (7, (0, 0)))
noncomputable def e_X9_spreads_16_1 : zH 3 := (show zT 3 from (zk_99_zs1_99_e00_X9_spreads_16, (((9, 7, 1049162), (10, 46656, 586)), ((11, 720, 586), (0, 0, 0)))), (7, (0, 0)))
noncomputable def e_X9_spreads_16_2 : zH 3 := (show zT 3 from (zk_99_zs1_99_e00_X9_spreads_16, (((9, 7, 2097738), (10, 46656, 586)), ((11, 720, 586), (0, 0, 0)))), (7, (0, 0)))
noncomputable def e_X9_spreads_16_3 : zH 3 := (show zT 3 from (zk_99_zs1_99_e00_X9_spreads_16, (((9, 7, 3146314), (10, 46656, 586)), ((11, 720, 586), (0, 0, 0)))), (7, (0, 0)))
noncomputable def e_X9_spreads_16_4 : zH 3 := (show zT 3 from (zk_99_zs1_99_e00_X9_spreads_16, (((9, 7, 4194890), (10, 46656, 586)), ((11, 720, 586), (0, 0, 0)))), (7, (0, 0)))
noncomputable def e_X9_spreads_16_5 : zH 3 := (show zT 3 from (zk_99_zs1_99_e00_X9_spreads_16, (((9, 7, 4194890), (10, 46656, 586)), ((11, 720, 586), (0, 0, 0)))), (7, (0, 0)))
noncomputable def e_X9_spreads_16_6 : zH 3 := (show zT 3 from (zk_99_zs1_99_e00_X9_spreads_16, (((9, 7, 5243466), (10, 46656, 586)), ((11, 720, 586), (0, 0, 0)))), (7, (0, 0)))
noncomputable def e_X9_spreads_16_7 : zH 3 := (show zT 3 from (zk_99_zs1_99_e00_X9_spreads_16, (((9, 7, 5243466), (10, 46656, 586)), ((11, 720, 586), (0, 0, 0)))), (7, (0, 0)))
noncomputable abbrev es_X9_spreads_16 : List (zEn 3) := [([zR 1, zR 2, zI 4294978097, zI 0, zI 0, zI 4294967296], e_X9_spreads_16_0), ([zR 1, zR 2, zI 4294978097, zI 0, zI 1, zI 4294967296], e_X9_spreads_16_1), ([zR 1, zR 2, zI 4294978097, zI 0, zI 2, zI 4294967296], e_X9_spreads_16_2), ([zR 1, zR 2, zI 4294978097, zI 0, zI 3, zI 4294967296], e_X9_spreads_16_3), ([zR 1, zR 2, zI 4294978097, zI 0, zI 4, zI 4294967296], e_X9_spreads_16_4), ([zR 1, zR 2, zI 4294978097, zI 1, zI 0, zI 4294967296], e_X9_spreads_16_5), ([zR 1, zR 2, zI 4294978097, zI 1, zI 1, zI 4294967296], e_X9_spreads_16_6), ([zR 1, zR 2, zI 4294978097, zI 2, zI 0, zI 4294967296], e_X9_spreads_16_7)]
theorem we_X9_spreads_16 : zgdR 0 0 (zU) (fun f => zfn 8 (b_X9_spreadsa f)) es_X9_spreads_16 = true := by decide +kernel
theorem ev_X9_spreads_16 : zselfR 0 0 (zU) es_X9_spreads_16 [zR 1, zR 2, zI 4294978097, zI 0, zI 0, zI 4294967296] e_X9_spreads_16_0 (zrk (zU) e_X9_spreads_16_0) = true := by decide +kernel
noncomputable def g_X9_spreads_16 {d : Nat} : List zV → zH d → zP d → Bool := zsmyM [(0, 0), (0, 1), (1, 3), (1, 31), (1, 32), (1, 26), (1, 27)] [zR 1, zR 2, zI 4294978097, zI 0, zI 0, zI 4294967296] e_X9_spreads_16_0 (zU) e_X9_spreads_16_0
theorem mg_X9_spreads_16 {d : Nat} : zMet (d := d) X_X9_spreads yX9_spreads 16 g_X9_spreads_16 := zMet_smM (mr_X9_spreadsa es_X9_spreads_16 we_X9_spreads_16 14 (by decide)) ev_X9_spreads_16
noncomputable def zk_99_zs1_99_e00_X9_spreads_17 : zT 2 := @Prod.mk (zT 1) (zT 1) ((25, 63, bg_118), (0, 12000, zun 40 12000 4294967296)) ((0, 66, bg_5), (8, 6, 4681))
noncomputable def e_X9_spreads_17_0 : zH 3 := (show zT 3 from (zk_99_zs1_99_e00_X9_spreads_17, (((9, 7, 4681), (10, 46656, 4681)), ((11, 720, 4681), (0, 0, 0)))), (7, (0, 0)))
noncomputable def e_X9_spreads_17_1 : zH 3 := (show zT 3 from (zk_99_zs1_99_e00_X9_spreads_17, (((9, 7, 1053257), (10, 46656, 4681)), ((11, 720, 4681), (0, 0, 0)))), (7, (0, 0)))
noncomputable def e_X9_spreads_17_2 : zH 3 := (show zT 3 from (zk_99_zs1_99_e00_X9_spreads_17, (((9, 7, 2101833), (10, 46656, 4681)), ((11, 720, 4681), (0, 0, 0)))), (7, (0, 0)))
noncomputable def e_X9_spreads_17_3 : zH 3 := (show zT 3 from (zk_99_zs1_99_e00_X9_spreads_17, (((9, 7, 3150409), (10, 46656, 4681)), ((11, 720, 4681), (0, 0, 0)))), (7, (0, 0)))
noncomputable def e_X9_spreads_17_4 : zH 3 := (show zT 3 from (zk_99_zs1_99_e00_X9_spreads_17, (((9, 7, 4198985), (10, 46656, 4681)), ((11, 720, 4681), (0, 0, 0)))), (7, (0, 0)))
noncomputable def e_X9_spreads_17_5 : zH 3 := (show zT 3 from (zk_99_zs1_99_e00_X9_spreads_17, (((9, 7, 5247561), (10, 46656, 4681)), ((11, 720, 4681), (0, 0, 0)))), (7, (0, 0)))
noncomputable def e_X9_spreads_17_6 : zH 3 := (show zT 3 from (zk_99_zs1_99_e00_X9_spreads_17, (((9, 7, 5247561), (10, 46656, 4681)), ((11, 720, 4681), (0, 0, 0)))), (7, (0, 0)))
noncomputable abbrev es_X9_spreads_17 : List (zEn 3) := [([zR 1, zR 2, zI 4294978097, zI 0, zI 0, zI 4294967296], e_X9_spreads_17_0), ([zR 1, zR 2, zI 4294978097, zI 0, zI 1, zI 4294967296], e_X9_spreads_17_1), ([zR 1, zR 2, zI 4294978097, zI 0, zI 2, zI 4294967296], e_X9_spreads_17_2), ([zR 1, zR 2, zI 4294978097, zI 0, zI 3, zI 4294967296], e_X9_spreads_17_3), ([zR 1, zR 2, zI 4294978097, zI 0, zI 4, zI 4294967296], e_X9_spreads_17_4), ([zR 1, zR 2, zI 4294978097, zI 0, zI 5, zI 4294967296], e_X9_spreads_17_5), ([zR 1, zR 2, zI 4294978097, zI 1, zI 0, zI 4294967296], e_X9_spreads_17_6)]
theorem we_X9_spreads_17 : zgdR 0 0 (zU) (fun f => zfn 8 (b_X9_spreadsa f)) es_X9_spreads_17 = true := by decide +kernel
theorem ev_X9_spreads_17 : zselfR 0 0 (zU) es_X9_spreads_17 [zR 1, zR 2, zI 4294978097, zI 0, zI 0, zI 4294967296] e_X9_spreads_17_0 (zrk (zU) e_X9_spreads_17_0) = true := by decide +kernel
noncomputable def g_X9_spreads_17 {d : Nat} : List zV → zH d → zP d → Bool := zsmyM [(0, 0), (0, 1), (1, 3), (1, 31), (1, 32), (1, 26), (1, 27)] [zR 1, zR 2, zI 4294978097, zI 0, zI 0, zI 4294967296] e_X9_spreads_17_0 (zU) e_X9_spreads_17_0
theorem mg_X9_spreads_17 {d : Nat} : zMet (d := d) X_X9_spreads yX9_spreads 16 g_X9_spreads_17 := zMet_smM (mr_X9_spreadsa es_X9_spreads_17 we_X9_spreads_17 14 (by decide)) ev_X9_spreads_17
noncomputable def zk_99_zs1_99_e00_X9_spreads_18 : zT 2 := @Prod.mk (zT 1) (zT 1) ((25, 63, bg_119), (0, 12000, zun 40 12000 4294967296)) ((0, 66, bg_6), (8, 6, 6))
noncomputable def e_X9_spreads_18_0 : zH 3 := (show zT 3 from (zk_99_zs1_99_e00_X9_spreads_18, (((9, 7, 6), (10, 46656, 6)), ((11, 720, 6), (0, 0, 0)))), (7, (0, 0)))
noncomputable def e_X9_spreads_18_1 : zH 3 := (show zT 3 from (zk_99_zs1_99_e00_X9_spreads_18, (((9, 7, 1048582), (10, 46656, 6)), ((11, 720, 6), (0, 0, 0)))), (7, (0, 0)))
noncomputable def e_X9_spreads_18_2 : zH 3 := (show zT 3 from (zk_99_zs1_99_e00_X9_spreads_18, (((9, 7, 1048582), (10, 46656, 6)), ((11, 720, 6), (0, 0, 0)))), (7, (0, 0)))
noncomputable def e_X9_spreads_18_3 : zH 3 := (show zT 3 from (zk_99_zs1_99_e00_X9_spreads_18, (((9, 7, 2097158), (10, 46656, 6)), ((11, 720, 6), (0, 0, 0)))), (7, (0, 0)))
noncomputable def e_X9_spreads_18_4 : zH 3 := (show zT 3 from (zk_99_zs1_99_e00_X9_spreads_18, (((9, 7, 2097158), (10, 46656, 6)), ((11, 720, 6), (0, 0, 0)))), (7, (0, 0)))
noncomputable def e_X9_spreads_18_5 : zH 3 := (show zT 3 from (zk_99_zs1_99_e00_X9_spreads_18, (((9, 7, 3145734), (10, 46656, 6)), ((11, 720, 6), (0, 0, 0)))), (7, (0, 0)))
noncomputable def e_X9_spreads_18_6 : zH 3 := (show zT 3 from (zk_99_zs1_99_e00_X9_spreads_18, (((9, 7, 3145734), (10, 46656, 6)), ((11, 720, 6), (0, 0, 0)))), (7, (0, 0)))
noncomputable def e_X9_spreads_18_7 : zH 3 := (show zT 3 from (zk_99_zs1_99_e00_X9_spreads_18, (((9, 7, 4194310), (10, 46656, 6)), ((11, 720, 6), (0, 0, 0)))), (7, (0, 0)))
noncomputable def e_X9_spreads_18_8 : zH 3 := (show zT 3 from (zk_99_zs1_99_e00_X9_spreads_18, (((9, 7, 4194310), (10, 46656, 6)), ((11, 720, 6), (0, 0, 0)))), (7, (0, 0)))
noncomputable def e_X9_spreads_18_9 : zH 3 := (show zT 3 from (zk_99_zs1_99_e00_X9_spreads_18, (((9, 7, 5242886), (10, 46656, 6)), ((11, 720, 6), (0, 0, 0)))), (7, (0, 0)))
noncomputable def e_X9_spreads_18_10 : zH 3 := (show zT 3 from (zk_99_zs1_99_e00_X9_spreads_18, (((9, 7, 5242886), (10, 46656, 6)), ((11, 720, 6), (0, 0, 0)))), (7, (0, 0)))
noncomputable def e_X9_spreads_18_11 : zH 3 := (show zT 3 from (zk_99_zs1_99_e00_X9_spreads_18, (((9, 7, 6291462), (10, 46656, 6)), ((11, 720, 6), (0, 0, 0)))), (7, (0, 0)))
noncomputable def e_X9_spreads_18_12 : zH 3 := (show zT 3 from (zk_99_zs1_99_e00_X9_spreads_18, (((9, 7, 6291462), (10, 46656, 6)), ((11, 720, 6), (0, 0, 0)))), (7, (0, 0)))
noncomputable abbrev es_X9_spreads_18 : List (zEn 3) := [([zR 1, zR 2, zI 4294978097, zI 0, zI 0, zI 4294967296], e_X9_spreads_18_0), ([zR 1, zR 2, zI 4294978097, zI 0, zI 1, zI 4294967296], e_X9_spreads_18_1), ([zR 1, zR 2, zI 4294978097, zI 1, zI 0, zI 4294967296], e_X9_spreads_18_2), ([zR 1, zR 2, zI 4294978097, zI 1, zI 1, zI 4294967296], e_X9_spreads_18_3), ([zR 1, zR 2, zI 4294978097, zI 2, zI 0, zI 4294967296], e_X9_spreads_18_4), ([zR 1, zR 2, zI 4294978097, zI 2, zI 1, zI 4294967296], e_X9_spreads_18_5), ([zR 1, zR 2, zI 4294978097, zI 3, zI 0, zI 4294967296], e_X9_spreads_18_6), ([zR 1, zR 2, zI 4294978097, zI 3, zI 1, zI 4294967296], e_X9_spreads_18_7), ([zR 1, zR 2, zI 4294978097, zI 4, zI 0, zI 4294967296], e_X9_spreads_18_8), ([zR 1, zR 2, zI 4294978097, zI 4, zI 1, zI 4294967296], e_X9_spreads_18_9), ([zR 1, zR 2, zI 4294978097, zI 5, zI 0, zI 4294967296], e_X9_spreads_18_10), ([zR 1, zR 2, zI 4294978097, zI 5, zI 1, zI 4294967296], e_X9_spreads_18_11), ([zR 1, zR 2, zI 4294978097, zI 6, zI 0, zI 4294967296], e_X9_spreads_18_12)]
theorem we_X9_spreads_18 : zgdR 0 0 (zU) (fun f => zfn 8 (b_X9_spreadsa f)) es_X9_spreads_18 = true := by decide +kernel
theorem ev_X9_spreads_18 : zselfR 0 0 (zU) es_X9_spreads_18 [zR 1, zR 2, zI 4294978097, zI 0, zI 0, zI 4294967296] e_X9_spreads_18_0 (zrk (zU) e_X9_spreads_18_0) = true := by decide +kernel
noncomputable def g_X9_spreads_18 {d : Nat} : List zV → zH d → zP d → Bool := zsmyM [(0, 0), (0, 1), (1, 3), (1, 31), (1, 32), (1, 26), (1, 27)] [zR 1, zR 2, zI 4294978097, zI 0, zI 0, zI 4294967296] e_X9_spreads_18_0 (zU) e_X9_spreads_18_0
theorem mg_X9_spreads_18 {d : Nat} : zMet (d := d) X_X9_spreads yX9_spreads 16 g_X9_spreads_18 := zMet_smM (mr_X9_spreadsa es_X9_spreads_18 we_X9_spreads_18 14 (by decide)) ev_X9_spreads_18
noncomputable def zk_99_zs1_99_e00_X9_spreads_19 : zT 2 := @Prod.mk (zT 1) (zT 1) ((25, 63, bg_120), (0, 12000, zun 40 12000 4294967296)) ((0, 66, bg_6), (8, 6, 13))
noncomputable def e_X9_spreads_19_0 : zH 3 := (show zT 3 from (zk_99_zs1_99_e00_X9_spreads_19, (((9, 7, 13), (10, 46656, 13)), ((11, 720, 13), (0, 0, 0)))), (7, (0, 0)))
noncomputable def e_X9_spreads_19_1 : zH 3 := (show zT 3 from (zk_99_zs1_99_e00_X9_spreads_19, (((9, 7, 1048589), (10, 46656, 13)), ((11, 720, 13), (0, 0, 0)))), (7, (0, 0)))
noncomputable def e_X9_spreads_19_2 : zH 3 := (show zT 3 from (zk_99_zs1_99_e00_X9_spreads_19, (((9, 7, 2097165), (10, 46656, 13)), ((11, 720, 13), (0, 0, 0)))), (7, (0, 0)))
noncomputable def e_X9_spreads_19_3 : zH 3 := (show zT 3 from (zk_99_zs1_99_e00_X9_spreads_19, (((9, 7, 2097165), (10, 46656, 13)), ((11, 720, 13), (0, 0, 0)))), (7, (0, 0)))
noncomputable def e_X9_spreads_19_4 : zH 3 := (show zT 3 from (zk_99_zs1_99_e00_X9_spreads_19, (((9, 7, 3145741), (10, 46656, 13)), ((11, 720, 13), (0, 0, 0)))), (7, (0, 0)))
noncomputable def e_X9_spreads_19_5 : zH 3 := (show zT 3 from (zk_99_zs1_99_e00_X9_spreads_19, (((9, 7, 3145741), (10, 46656, 13)), ((11, 720, 13), (0, 0, 0)))), (7, (0, 0)))
noncomputable def e_X9_spreads_19_6 : zH 3 := (show zT 3 from (zk_99_zs1_99_e00_X9_spreads_19, (((9, 7, 4194317), (10, 46656, 13)), ((11, 720, 13), (0, 0, 0)))), (7, (0, 0)))
noncomputable def e_X9_spreads_19_7 : zH 3 := (show zT 3 from (zk_99_zs1_99_e00_X9_spreads_19, (((9, 7, 4194317), (10, 46656, 13)), ((11, 720, 13), (0, 0, 0)))), (7, (0, 0)))
noncomputable def e_X9_spreads_19_8 : zH 3 := (show zT 3 from (zk_99_zs1_99_e00_X9_spreads_19, (((9, 7, 5242893), (10, 46656, 13)), ((11, 720, 13), (0, 0, 0)))), (7, (0, 0)))
noncomputable def e_X9_spreads_19_9 : zH 3 := (show zT 3 from (zk_99_zs1_99_e00_X9_spreads_19, (((9, 7, 5242893), (10, 46656, 13)), ((11, 720, 13), (0, 0, 0)))), (7, (0, 0)))
noncomputable def e_X9_spreads_19_10 : zH 3 := (show zT 3 from (zk_99_zs1_99_e00_X9_spreads_19, (((9, 7, 6291469), (10, 46656, 13)), ((11, 720, 13), (0, 0, 0)))), (7, (0, 0)))
noncomputable def e_X9_spreads_19_11 : zH 3 := (show zT 3 from (zk_99_zs1_99_e00_X9_spreads_19, (((9, 7, 6291469), (10, 46656, 13)), ((11, 720, 13), (0, 0, 0)))), (7, (0, 0)))
noncomputable abbrev es_X9_spreads_19 : List (zEn 3) := [([zR 1, zR 2, zI 4294978097, zI 0, zI 0, zI 4294967296], e_X9_spreads_19_0), ([zR 1, zR 2, zI 4294978097, zI 0, zI 1, zI 4294967296], e_X9_spreads_19_1), ([zR 1, zR 2, zI 4294978097, zI 0, zI 2, zI 4294967296], e_X9_spreads_19_2), ([zR 1, zR 2, zI 4294978097, zI 1, zI 0, zI 4294967296], e_X9_spreads_19_3), ([zR 1, zR 2, zI 4294978097, zI 1, zI 1, zI 4294967296], e_X9_spreads_19_4), ([zR 1, zR 2, zI 4294978097, zI 2, zI 0, zI 4294967296], e_X9_spreads_19_5), ([zR 1, zR 2, zI 4294978097, zI 2, zI 1, zI 4294967296], e_X9_spreads_19_6), ([zR 1, zR 2, zI 4294978097, zI 3, zI 0, zI 4294967296], e_X9_spreads_19_7), ([zR 1, zR 2, zI 4294978097, zI 3, zI 1, zI 4294967296], e_X9_spreads_19_8), ([zR 1, zR 2, zI 4294978097, zI 4, zI 0, zI 4294967296], e_X9_spreads_19_9), ([zR 1, zR 2, zI 4294978097, zI 4, zI 1, zI 4294967296], e_X9_spreads_19_10), ([zR 1, zR 2, zI 4294978097, zI 5, zI 0, zI 4294967296], e_X9_spreads_19_11)]
theorem we_X9_spreads_19 : zgdR 0 0 (zU) (fun f => zfn 8 (b_X9_spreadsa f)) es_X9_spreads_19 = true := by decide +kernel
theorem ev_X9_spreads_19 : zselfR 0 0 (zU) es_X9_spreads_19 [zR 1, zR 2, zI 4294978097, zI 0, zI 0, zI 4294967296] e_X9_spreads_19_0 (zrk (zU) e_X9_spreads_19_0) = true := by decide +kernel
noncomputable def g_X9_spreads_19 {d : Nat} : List zV → zH d → zP d → Bool := zsmyM [(0, 0), (0, 1), (1, 3), (1, 31), (1, 32), (1, 26), (1, 27)] [zR 1, zR 2, zI 4294978097, zI 0, zI 0, zI 4294967296] e_X9_spreads_19_0 (zU) e_X9_spreads_19_0
theorem mg_X9_spreads_19 {d : Nat} : zMet (d := d) X_X9_spreads yX9_spreads 16 g_X9_spreads_19 := zMet_smM (mr_X9_spreadsa es_X9_spreads_19 we_X9_spreads_19 14 (by decide)) ev_X9_spreads_19
noncomputable def zk_99_zs1_99_e00_X9_spreads_20 : zT 2 := @Prod.mk (zT 1) (zT 1) ((25, 63, bg_121), (0, 12000, zun 40 12000 4294967296)) ((0, 66, bg_6), (8, 6, 20))
noncomputable def e_X9_spreads_20_0 : zH 3 := (show zT 3 from (zk_99_zs1_99_e00_X9_spreads_20, (((9, 7, 20), (10, 46656, 20)), ((11, 720, 20), (0, 0, 0)))), (7, (0, 0)))
noncomputable def e_X9_spreads_20_1 : zH 3 := (show zT 3 from (zk_99_zs1_99_e00_X9_spreads_20, (((9, 7, 1048596), (10, 46656, 20)), ((11, 720, 20), (0, 0, 0)))), (7, (0, 0)))
noncomputable def e_X9_spreads_20_2 : zH 3 := (show zT 3 from (zk_99_zs1_99_e00_X9_spreads_20, (((9, 7, 2097172), (10, 46656, 20)), ((11, 720, 20), (0, 0, 0)))), (7, (0, 0)))
noncomputable def e_X9_spreads_20_3 : zH 3 := (show zT 3 from (zk_99_zs1_99_e00_X9_spreads_20, (((9, 7, 2097172), (10, 46656, 20)), ((11, 720, 20), (0, 0, 0)))), (7, (0, 0)))
noncomputable def e_X9_spreads_20_4 : zH 3 := (show zT 3 from (zk_99_zs1_99_e00_X9_spreads_20, (((9, 7, 3145748), (10, 46656, 20)), ((11, 720, 20), (0, 0, 0)))), (7, (0, 0)))
noncomputable def e_X9_spreads_20_5 : zH 3 := (show zT 3 from (zk_99_zs1_99_e00_X9_spreads_20, (((9, 7, 4194324), (10, 46656, 20)), ((11, 720, 20), (0, 0, 0)))), (7, (0, 0)))
noncomputable def e_X9_spreads_20_6 : zH 3 := (show zT 3 from (zk_99_zs1_99_e00_X9_spreads_20, (((9, 7, 4194324), (10, 46656, 20)), ((11, 720, 20), (0, 0, 0)))), (7, (0, 0)))
noncomputable def e_X9_spreads_20_7 : zH 3 := (show zT 3 from (zk_99_zs1_99_e00_X9_spreads_20, (((9, 7, 5242900), (10, 46656, 20)), ((11, 720, 20), (0, 0, 0)))), (7, (0, 0)))
noncomputable def e_X9_spreads_20_8 : zH 3 := (show zT 3 from (zk_99_zs1_99_e00_X9_spreads_20, (((9, 7, 5242900), (10, 46656, 20)), ((11, 720, 20), (0, 0, 0)))), (7, (0, 0)))
noncomputable def e_X9_spreads_20_9 : zH 3 := (show zT 3 from (zk_99_zs1_99_e00_X9_spreads_20, (((9, 7, 6291476), (10, 46656, 20)), ((11, 720, 20), (0, 0, 0)))), (7, (0, 0)))
noncomputable def e_X9_spreads_20_10 : zH 3 := (show zT 3 from (zk_99_zs1_99_e00_X9_spreads_20, (((9, 7, 6291476), (10, 46656, 20)), ((11, 720, 20), (0, 0, 0)))), (7, (0, 0)))
noncomputable abbrev es_X9_spreads_20 : List (zEn 3) := [([zR 1, zR 2, zI 4294978097, zI 0, zI 0, zI 4294967296], e_X9_spreads_20_0), ([zR 1, zR 2, zI 4294978097, zI 0, zI 1, zI 4294967296], e_X9_spreads_20_1), ([zR 1, zR 2, zI 4294978097, zI 0, zI 2, zI 4294967296], e_X9_spreads_20_2), ([zR 1, zR 2, zI 4294978097, zI 1, zI 0, zI 4294967296], e_X9_spreads_20_3), ([zR 1, zR 2, zI 4294978097, zI 1, zI 1, zI 4294967296], e_X9_spreads_20_4), ([zR 1, zR 2, zI 4294978097, zI 1, zI 2, zI 4294967296], e_X9_spreads_20_5), ([zR 1, zR 2, zI 4294978097, zI 2, zI 0, zI 4294967296], e_X9_spreads_20_6), ([zR 1, zR 2, zI 4294978097, zI 2, zI 1, zI 4294967296], e_X9_spreads_20_7), ([zR 1, zR 2, zI 4294978097, zI 3, zI 0, zI 4294967296], e_X9_spreads_20_8), ([zR 1, zR 2, zI 4294978097, zI 3, zI 1, zI 4294967296], e_X9_spreads_20_9), ([zR 1, zR 2, zI 4294978097, zI 4, zI 0, zI 4294967296], e_X9_spreads_20_10)]
theorem we_X9_spreads_20 : zgdR 0 0 (zU) (fun f => zfn 8 (b_X9_spreadsa f)) es_X9_spreads_20 = true := by decide +kernel
theorem ev_X9_spreads_20 : zselfR 0 0 (zU) es_X9_spreads_20 [zR 1, zR 2, zI 4294978097, zI 0, zI 0, zI 4294967296] e_X9_spreads_20_0 (zrk (zU) e_X9_spreads_20_0) = true := by decide +kernel
noncomputable def g_X9_spreads_20 {d : Nat} : List zV → zH d → zP d → Bool := zsmyM [(0, 0), (0, 1), (1, 3), (1, 31), (1, 32), (1, 26), (1, 27)] [zR 1, zR 2, zI 4294978097, zI 0, zI 0, zI 4294967296] e_X9_spreads_20_0 (zU) e_X9_spreads_20_0
theorem mg_X9_spreads_20 {d : Nat} : zMet (d := d) X_X9_spreads yX9_spreads 16 g_X9_spreads_20 := zMet_smM (mr_X9_spreadsa es_X9_spreads_20 we_X9_spreads_20 14 (by decide)) ev_X9_spreads_20
noncomputable def zk_99_zs1_99_e00_X9_spreads_21 : zT 2 := @Prod.mk (zT 1) (zT 1) ((25, 63, bg_122), (0, 12000, zun 40 12000 4294967296)) ((0, 66, bg_6), (8, 6, 76))
noncomputable def e_X9_spreads_21_0 : zH 3 := (show zT 3 from (zk_99_zs1_99_e00_X9_spreads_21, (((9, 7, 76), (10, 46656, 76)), ((11, 720, 76), (0, 0, 0)))), (7, (0, 0)))
noncomputable def e_X9_spreads_21_1 : zH 3 := (show zT 3 from (zk_99_zs1_99_e00_X9_spreads_21, (((9, 7, 1048652), (10, 46656, 76)), ((11, 720, 76), (0, 0, 0)))), (7, (0, 0)))
noncomputable def e_X9_spreads_21_2 : zH 3 := (show zT 3 from (zk_99_zs1_99_e00_X9_spreads_21, (((9, 7, 2097228), (10, 46656, 76)), ((11, 720, 76), (0, 0, 0)))), (7, (0, 0)))
noncomputable def e_X9_spreads_21_3 : zH 3 := (show zT 3 from (zk_99_zs1_99_e00_X9_spreads_21, (((9, 7, 3145804), (10, 46656, 76)), ((11, 720, 76), (0, 0, 0)))), (7, (0, 0)))
noncomputable def e_X9_spreads_21_4 : zH 3 := (show zT 3 from (zk_99_zs1_99_e00_X9_spreads_21, (((9, 7, 3145804), (10, 46656, 76)), ((11, 720, 76), (0, 0, 0)))), (7, (0, 0)))
noncomputable def e_X9_spreads_21_5 : zH 3 := (show zT 3 from (zk_99_zs1_99_e00_X9_spreads_21, (((9, 7, 4194380), (10, 46656, 76)), ((11, 720, 76), (0, 0, 0)))), (7, (0, 0)))
noncomputable def e_X9_spreads_21_6 : zH 3 := (show zT 3 from (zk_99_zs1_99_e00_X9_spreads_21, (((9, 7, 4194380), (10, 46656, 76)), ((11, 720, 76), (0, 0, 0)))), (7, (0, 0)))
noncomputable def e_X9_spreads_21_7 : zH 3 := (show zT 3 from (zk_99_zs1_99_e00_X9_spreads_21, (((9, 7, 5242956), (10, 46656, 76)), ((11, 720, 76), (0, 0, 0)))), (7, (0, 0)))
noncomputable def e_X9_spreads_21_8 : zH 3 := (show zT 3 from (zk_99_zs1_99_e00_X9_spreads_21, (((9, 7, 5242956), (10, 46656, 76)), ((11, 720, 76), (0, 0, 0)))), (7, (0, 0)))
noncomputable def e_X9_spreads_21_9 : zH 3 := (show zT 3 from (zk_99_zs1_99_e00_X9_spreads_21, (((9, 7, 6291532), (10, 46656, 76)), ((11, 720, 76), (0, 0, 0)))), (7, (0, 0)))
noncomputable def e_X9_spreads_21_10 : zH 3 := (show zT 3 from (zk_99_zs1_99_e00_X9_spreads_21, (((9, 7, 6291532), (10, 46656, 76)), ((11, 720, 76), (0, 0, 0)))), (7, (0, 0)))
noncomputable abbrev es_X9_spreads_21 : List (zEn 3) := [([zR 1, zR 2, zI 4294978097, zI 0, zI 0, zI 4294967296], e_X9_spreads_21_0), ([zR 1, zR 2, zI 4294978097, zI 0, zI 1, zI 4294967296], e_X9_spreads_21_1), ([zR 1, zR 2, zI 4294978097, zI 0, zI 2, zI 4294967296], e_X9_spreads_21_2), ([zR 1, zR 2, zI 4294978097, zI 0, zI 3, zI 4294967296], e_X9_spreads_21_3), ([zR 1, zR 2, zI 4294978097, zI 1, zI 0, zI 4294967296], e_X9_spreads_21_4), ([zR 1, zR 2, zI 4294978097, zI 1, zI 1, zI 4294967296], e_X9_spreads_21_5), ([zR 1, zR 2, zI 4294978097, zI 2, zI 0, zI 4294967296], e_X9_spreads_21_6), ([zR 1, zR 2, zI 4294978097, zI 2, zI 1, zI 4294967296], e_X9_spreads_21_7), ([zR 1, zR 2, zI 4294978097, zI 3, zI 0, zI 4294967296], e_X9_spreads_21_8), ([zR 1, zR 2, zI 4294978097, zI 3, zI 1, zI 4294967296], e_X9_spreads_21_9), ([zR 1, zR 2, zI 4294978097, zI 4, zI 0, zI 4294967296], e_X9_spreads_21_10)]
theorem we_X9_spreads_21 : zgdR 0 0 (zU) (fun f => zfn 8 (b_X9_spreadsa f)) es_X9_spreads_21 = true := by decide +kernel
theorem ev_X9_spreads_21 : zselfR 0 0 (zU) es_X9_spreads_21 [zR 1, zR 2, zI 4294978097, zI 0, zI 0, zI 4294967296] e_X9_spreads_21_0 (zrk (zU) e_X9_spreads_21_0) = true := by decide +kernel
noncomputable def g_X9_spreads_21 {d : Nat} : List zV → zH d → zP d → Bool := zsmyM [(0, 0), (0, 1), (1, 3), (1, 31), (1, 32), (1, 26), (1, 27)] [zR 1, zR 2, zI 4294978097, zI 0, zI 0, zI 4294967296] e_X9_spreads_21_0 (zU) e_X9_spreads_21_0
theorem mg_X9_spreads_21 {d : Nat} : zMet (d := d) X_X9_spreads yX9_spreads 16 g_X9_spreads_21 := zMet_smM (mr_X9_spreadsa es_X9_spreads_21 we_X9_spreads_21 14 (by decide)) ev_X9_spreads_21
noncomputable def zk_99_zs1_99_e00_X9_spreads_22 : zT 2 := @Prod.mk (zT 1) (zT 1) ((25, 63, bg_123), (0, 12000, zun 40 12000 4294967296)) ((0, 66, bg_6), (8, 6, 27))
noncomputable def e_X9_spreads_22_0 : zH 3 := (show zT 3 from (zk_99_zs1_99_e00_X9_spreads_22, (((9, 7, 27), (10, 46656, 27)), ((11, 720, 27), (0, 0, 0)))), (7, (0, 0)))
noncomputable def e_X9_spreads_22_1 : zH 3 := (show zT 3 from (zk_99_zs1_99_e00_X9_spreads_22, (((9, 7, 1048603), (10, 46656, 27)), ((11, 720, 27), (0, 0, 0)))), (7, (0, 0)))
noncomputable def e_X9_spreads_22_2 : zH 3 := (show zT 3 from (zk_99_zs1_99_e00_X9_spreads_22, (((9, 7, 2097179), (10, 46656, 27)), ((11, 720, 27), (0, 0, 0)))), (7, (0, 0)))
noncomputable def e_X9_spreads_22_3 : zH 3 := (show zT 3 from (zk_99_zs1_99_e00_X9_spreads_22, (((9, 7, 2097179), (10, 46656, 27)), ((11, 720, 27), (0, 0, 0)))), (7, (0, 0)))
noncomputable def e_X9_spreads_22_4 : zH 3 := (show zT 3 from (zk_99_zs1_99_e00_X9_spreads_22, (((9, 7, 3145755), (10, 46656, 27)), ((11, 720, 27), (0, 0, 0)))), (7, (0, 0)))
noncomputable def e_X9_spreads_22_5 : zH 3 := (show zT 3 from (zk_99_zs1_99_e00_X9_spreads_22, (((9, 7, 4194331), (10, 46656, 27)), ((11, 720, 27), (0, 0, 0)))), (7, (0, 0)))
noncomputable def e_X9_spreads_22_6 : zH 3 := (show zT 3 from (zk_99_zs1_99_e00_X9_spreads_22, (((9, 7, 4194331), (10, 46656, 27)), ((11, 720, 27), (0, 0, 0)))), (7, (0, 0)))
noncomputable def e_X9_spreads_22_7 : zH 3 := (show zT 3 from (zk_99_zs1_99_e00_X9_spreads_22, (((9, 7, 5242907), (10, 46656, 27)), ((11, 720, 27), (0, 0, 0)))), (7, (0, 0)))
noncomputable def e_X9_spreads_22_8 : zH 3 := (show zT 3 from (zk_99_zs1_99_e00_X9_spreads_22, (((9, 7, 6291483), (10, 46656, 27)), ((11, 720, 27), (0, 0, 0)))), (7, (0, 0)))
noncomputable def e_X9_spreads_22_9 : zH 3 := (show zT 3 from (zk_99_zs1_99_e00_X9_spreads_22, (((9, 7, 6291483), (10, 46656, 27)), ((11, 720, 27), (0, 0, 0)))), (7, (0, 0)))
noncomputable abbrev es_X9_spreads_22 : List (zEn 3) := [([zR 1, zR 2, zI 4294978097, zI 0, zI 0, zI 4294967296], e_X9_spreads_22_0), ([zR 1, zR 2, zI 4294978097, zI 0, zI 1, zI 4294967296], e_X9_spreads_22_1), ([zR 1, zR 2, zI 4294978097, zI 0, zI 2, zI 4294967296], e_X9_spreads_22_2), ([zR 1, zR 2, zI 4294978097, zI 1, zI 0, zI 4294967296], e_X9_spreads_22_3), ([zR 1, zR 2, zI 4294978097, zI 1, zI 1, zI 4294967296], e_X9_spreads_22_4), ([zR 1, zR 2, zI 4294978097, zI 1, zI 2, zI 4294967296], e_X9_spreads_22_5), ([zR 1, zR 2, zI 4294978097, zI 2, zI 0, zI 4294967296], e_X9_spreads_22_6), ([zR 1, zR 2, zI 4294978097, zI 2, zI 1, zI 4294967296], e_X9_spreads_22_7), ([zR 1, zR 2, zI 4294978097, zI 2, zI 2, zI 4294967296], e_X9_spreads_22_8), ([zR 1, zR 2, zI 4294978097, zI 3, zI 0, zI 4294967296], e_X9_spreads_22_9)]
theorem we_X9_spreads_22 : zgdR 0 0 (zU) (fun f => zfn 8 (b_X9_spreadsa f)) es_X9_spreads_22 = true := by decide +kernel
theorem ev_X9_spreads_22 : zselfR 0 0 (zU) es_X9_spreads_22 [zR 1, zR 2, zI 4294978097, zI 0, zI 0, zI 4294967296] e_X9_spreads_22_0 (zrk (zU) e_X9_spreads_22_0) = true := by decide +kernel
noncomputable def g_X9_spreads_22 {d : Nat} : List zV → zH d → zP d → Bool := zsmyM [(0, 0), (0, 1), (1, 3), (1, 31), (1, 32), (1, 26), (1, 27)] [zR 1, zR 2, zI 4294978097, zI 0, zI 0, zI 4294967296] e_X9_spreads_22_0 (zU) e_X9_spreads_22_0
theorem mg_X9_spreads_22 {d : Nat} : zMet (d := d) X_X9_spreads yX9_spreads 16 g_X9_spreads_22 := zMet_smM (mr_X9_spreadsa es_X9_spreads_22 we_X9_spreads_22 14 (by decide)) ev_X9_spreads_22
noncomputable def zk_99_zs1_99_e00_X9_spreads_23 : zT 2 := @Prod.mk (zT 1) (zT 1) ((25, 63, bg_124), (0, 12000, zun 40 12000 4294967296)) ((0, 66, bg_6), (8, 6, 83))
noncomputable def e_X9_spreads_23_0 : zH 3 := (show zT 3 from (zk_99_zs1_99_e00_X9_spreads_23, (((9, 7, 83), (10, 46656, 83)), ((11, 720, 83), (0, 0, 0)))), (7, (0, 0)))
noncomputable def e_X9_spreads_23_1 : zH 3 := (show zT 3 from (zk_99_zs1_99_e00_X9_spreads_23, (((9, 7, 1048659), (10, 46656, 83)), ((11, 720, 83), (0, 0, 0)))), (7, (0, 0)))
noncomputable def e_X9_spreads_23_2 : zH 3 := (show zT 3 from (zk_99_zs1_99_e00_X9_spreads_23, (((9, 7, 2097235), (10, 46656, 83)), ((11, 720, 83), (0, 0, 0)))), (7, (0, 0)))
noncomputable def e_X9_spreads_23_3 : zH 3 := (show zT 3 from (zk_99_zs1_99_e00_X9_spreads_23, (((9, 7, 3145811), (10, 46656, 83)), ((11, 720, 83), (0, 0, 0)))), (7, (0, 0)))
noncomputable def e_X9_spreads_23_4 : zH 3 := (show zT 3 from (zk_99_zs1_99_e00_X9_spreads_23, (((9, 7, 3145811), (10, 46656, 83)), ((11, 720, 83), (0, 0, 0)))), (7, (0, 0)))
noncomputable def e_X9_spreads_23_5 : zH 3 := (show zT 3 from (zk_99_zs1_99_e00_X9_spreads_23, (((9, 7, 4194387), (10, 46656, 83)), ((11, 720, 83), (0, 0, 0)))), (7, (0, 0)))
noncomputable def e_X9_spreads_23_6 : zH 3 := (show zT 3 from (zk_99_zs1_99_e00_X9_spreads_23, (((9, 7, 5242963), (10, 46656, 83)), ((11, 720, 83), (0, 0, 0)))), (7, (0, 0)))
noncomputable def e_X9_spreads_23_7 : zH 3 := (show zT 3 from (zk_99_zs1_99_e00_X9_spreads_23, (((9, 7, 5242963), (10, 46656, 83)), ((11, 720, 83), (0, 0, 0)))), (7, (0, 0)))
noncomputable def e_X9_spreads_23_8 : zH 3 := (show zT 3 from (zk_99_zs1_99_e00_X9_spreads_23, (((9, 7, 6291539), (10, 46656, 83)), ((11, 720, 83), (0, 0, 0)))), (7, (0, 0)))
noncomputable def e_X9_spreads_23_9 : zH 3 := (show zT 3 from (zk_99_zs1_99_e00_X9_spreads_23, (((9, 7, 6291539), (10, 46656, 83)), ((11, 720, 83), (0, 0, 0)))), (7, (0, 0)))
noncomputable abbrev es_X9_spreads_23 : List (zEn 3) := [([zR 1, zR 2, zI 4294978097, zI 0, zI 0, zI 4294967296], e_X9_spreads_23_0), ([zR 1, zR 2, zI 4294978097, zI 0, zI 1, zI 4294967296], e_X9_spreads_23_1), ([zR 1, zR 2, zI 4294978097, zI 0, zI 2, zI 4294967296], e_X9_spreads_23_2), ([zR 1, zR 2, zI 4294978097, zI 0, zI 3, zI 4294967296], e_X9_spreads_23_3), ([zR 1, zR 2, zI 4294978097, zI 1, zI 0, zI 4294967296], e_X9_spreads_23_4), ([zR 1, zR 2, zI 4294978097, zI 1, zI 1, zI 4294967296], e_X9_spreads_23_5), ([zR 1, zR 2, zI 4294978097, zI 1, zI 2, zI 4294967296], e_X9_spreads_23_6), ([zR 1, zR 2, zI 4294978097, zI 2, zI 0, zI 4294967296], e_X9_spreads_23_7), ([zR 1, zR 2, zI 4294978097, zI 2, zI 1, zI 4294967296], e_X9_spreads_23_8), ([zR 1, zR 2, zI 4294978097, zI 3, zI 0, zI 4294967296], e_X9_spreads_23_9)]
theorem we_X9_spreads_23 : zgdR 0 0 (zU) (fun f => zfn 8 (b_X9_spreadsa f)) es_X9_spreads_23 = true := by decide +kernel
theorem ev_X9_spreads_23 : zselfR 0 0 (zU) es_X9_spreads_23 [zR 1, zR 2, zI 4294978097, zI 0, zI 0, zI 4294967296] e_X9_spreads_23_0 (zrk (zU) e_X9_spreads_23_0) = true := by decide +kernel
noncomputable def g_X9_spreads_23 {d : Nat} : List zV → zH d → zP d → Bool := zsmyM [(0, 0), (0, 1), (1, 3), (1, 31), (1, 32), (1, 26), (1, 27)] [zR 1, zR 2, zI 4294978097, zI 0, zI 0, zI 4294967296] e_X9_spreads_23_0 (zU) e_X9_spreads_23_0
theorem mg_X9_spreads_23 {d : Nat} : zMet (d := d) X_X9_spreads yX9_spreads 16 g_X9_spreads_23 := zMet_smM (mr_X9_spreadsa es_X9_spreads_23 we_X9_spreads_23 14 (by decide)) ev_X9_spreads_23
noncomputable def zk_99_zs1_99_e00_X9_spreads_24 : zT 2 := @Prod.mk (zT 1) (zT 1) ((25, 63, bg_125), (0, 12000, zun 40 12000 4294967296)) ((0, 66, bg_6), (8, 6, 587))
noncomputable def e_X9_spreads_24_0 : zH 3 := (show zT 3 from (zk_99_zs1_99_e00_X9_spreads_24, (((9, 7, 587), (10, 46656, 587)), ((11, 720, 587), (0, 0, 0)))), (7, (0, 0)))
noncomputable def e_X9_spreads_24_1 : zH 3 := (show zT 3 from (zk_99_zs1_99_e00_X9_spreads_24, (((9, 7, 1049163), (10, 46656, 587)), ((11, 720, 587), (0, 0, 0)))), (7, (0, 0)))
noncomputable def e_X9_spreads_24_2 : zH 3 := (show zT 3 from (zk_99_zs1_99_e00_X9_spreads_24, (((9, 7, 2097739), (10, 46656, 587)), ((11, 720, 587), (0, 0, 0)))), (7, (0, 0)))
noncomputable def e_X9_spreads_24_3 : zH 3 := (show zT 3 from (zk_99_zs1_99_e00_X9_spreads_24, (((9, 7, 3146315), (10, 46656, 587)), ((11, 720, 587), (0, 0, 0)))), (7, (0, 0)))
noncomputable def e_X9_spreads_24_4 : zH 3 := (show zT 3 from (zk_99_zs1_99_e00_X9_spreads_24, (((9, 7, 4194891), (10, 46656, 587)), ((11, 720, 587), (0, 0, 0)))), (7, (0, 0)))
noncomputable def e_X9_spreads_24_5 : zH 3 := (show zT 3 from (zk_99_zs1_99_e00_X9_spreads_24, (((9, 7, 4194891), (10, 46656, 587)), ((11, 720, 587), (0, 0, 0)))), (7, (0, 0)))
noncomputable def e_X9_spreads_24_6 : zH 3 := (show zT 3 from (zk_99_zs1_99_e00_X9_spreads_24, (((9, 7, 5243467), (10, 46656, 587)), ((11, 720, 587), (0, 0, 0)))), (7, (0, 0)))
noncomputable def e_X9_spreads_24_7 : zH 3 := (show zT 3 from (zk_99_zs1_99_e00_X9_spreads_24, (((9, 7, 5243467), (10, 46656, 587)), ((11, 720, 587), (0, 0, 0)))), (7, (0, 0)))
noncomputable def e_X9_spreads_24_8 : zH 3 := (show zT 3 from (zk_99_zs1_99_e00_X9_spreads_24, (((9, 7, 6292043), (10, 46656, 587)), ((11, 720, 587), (0, 0, 0)))), (7, (0, 0)))
noncomputable def e_X9_spreads_24_9 : zH 3 := (show zT 3 from (zk_99_zs1_99_e00_X9_spreads_24, (((9, 7, 6292043), (10, 46656, 587)), ((11, 720, 587), (0, 0, 0)))), (7, (0, 0)))
noncomputable abbrev es_X9_spreads_24 : List (zEn 3) := [([zR 1, zR 2, zI 4294978097, zI 0, zI 0, zI 4294967296], e_X9_spreads_24_0), ([zR 1, zR 2, zI 4294978097, zI 0, zI 1, zI 4294967296], e_X9_spreads_24_1), ([zR 1, zR 2, zI 4294978097, zI 0, zI 2, zI 4294967296], e_X9_spreads_24_2), ([zR 1, zR 2, zI 4294978097, zI 0, zI 3, zI 4294967296], e_X9_spreads_24_3), ([zR 1, zR 2, zI 4294978097, zI 0, zI 4, zI 4294967296], e_X9_spreads_24_4), ([zR 1, zR 2, zI 4294978097, zI 1, zI 0, zI 4294967296], e_X9_spreads_24_5), ([zR 1, zR 2, zI 4294978097, zI 1, zI 1, zI 4294967296], e_X9_spreads_24_6), ([zR 1, zR 2, zI 4294978097, zI 2, zI 0, zI 4294967296], e_X9_spreads_24_7), ([zR 1, zR 2, zI 4294978097, zI 2, zI 1, zI 4294967296], e_X9_spreads_24_8), ([zR 1, zR 2, zI 4294978097, zI 3, zI 0, zI 4294967296], e_X9_spreads_24_9)]
theorem we_X9_spreads_24 : zgdR 0 0 (zU) (fun f => zfn 8 (b_X9_spreadsa f)) es_X9_spreads_24 = true := by decide +kernel
theorem ev_X9_spreads_24 : zselfR 0 0 (zU) es_X9_spreads_24 [zR 1, zR 2, zI 4294978097, zI 0, zI 0, zI 4294967296] e_X9_spreads_24_0 (zrk (zU) e_X9_spreads_24_0) = true := by decide +kernel
noncomputable def g_X9_spreads_24 {d : Nat} : List zV → zH d → zP d → Bool := zsmyM [(0, 0), (0, 1), (1, 3), (1, 31), (1, 32), (1, 26), (1, 27)] [zR 1, zR 2, zI 4294978097, zI 0, zI 0, zI 4294967296] e_X9_spreads_24_0 (zU) e_X9_spreads_24_0
theorem mg_X9_spreads_24 {d : Nat} : zMet (d := d) X_X9_spreads yX9_spreads 16 g_X9_spreads_24 := zMet_smM (mr_X9_spreadsa es_X9_spreads_24 we_X9_spreads_24 14 (by decide)) ev_X9_spreads_24
noncomputable def zk_99_zs1_99_e00_X9_spreads_25 : zT 2 := @Prod.mk (zT 1) (zT 1) ((25, 63, bg_126), (0, 12000, zun 40 12000 4294967296)) ((0, 66, bg_6), (8, 6, 146))
noncomputable def e_X9_spreads_25_0 : zH 3 := (show zT 3 from (zk_99_zs1_99_e00_X9_spreads_25, (((9, 7, 146), (10, 46656, 146)), ((11, 720, 146), (0, 0, 0)))), (7, (0, 0)))
noncomputable def e_X9_spreads_25_1 : zH 3 := (show zT 3 from (zk_99_zs1_99_e00_X9_spreads_25, (((9, 7, 1048722), (10, 46656, 146)), ((11, 720, 146), (0, 0, 0)))), (7, (0, 0)))
noncomputable def e_X9_spreads_25_2 : zH 3 := (show zT 3 from (zk_99_zs1_99_e00_X9_spreads_25, (((9, 7, 2097298), (10, 46656, 146)), ((11, 720, 146), (0, 0, 0)))), (7, (0, 0)))
noncomputable def e_X9_spreads_25_3 : zH 3 := (show zT 3 from (zk_99_zs1_99_e00_X9_spreads_25, (((9, 7, 3145874), (10, 46656, 146)), ((11, 720, 146), (0, 0, 0)))), (7, (0, 0)))
noncomputable def e_X9_spreads_25_4 : zH 3 := (show zT 3 from (zk_99_zs1_99_e00_X9_spreads_25, (((9, 7, 3145874), (10, 46656, 146)), ((11, 720, 146), (0, 0, 0)))), (7, (0, 0)))
noncomputable def e_X9_spreads_25_5 : zH 3 := (show zT 3 from (zk_99_zs1_99_e00_X9_spreads_25, (((9, 7, 4194450), (10, 46656, 146)), ((11, 720, 146), (0, 0, 0)))), (7, (0, 0)))
noncomputable def e_X9_spreads_25_6 : zH 3 := (show zT 3 from (zk_99_zs1_99_e00_X9_spreads_25, (((9, 7, 5243026), (10, 46656, 146)), ((11, 720, 146), (0, 0, 0)))), (7, (0, 0)))
noncomputable def e_X9_spreads_25_7 : zH 3 := (show zT 3 from (zk_99_zs1_99_e00_X9_spreads_25, (((9, 7, 6291602), (10, 46656, 146)), ((11, 720, 146), (0, 0, 0)))), (7, (0, 0)))
noncomputable def e_X9_spreads_25_8 : zH 3 := (show zT 3 from (zk_99_zs1_99_e00_X9_spreads_25, (((9, 7, 6291602), (10, 46656, 146)), ((11, 720, 146), (0, 0, 0)))), (7, (0, 0)))
noncomputable abbrev es_X9_spreads_25 : List (zEn 3) := [([zR 1, zR 2, zI 4294978097, zI 0, zI 0, zI 4294967296], e_X9_spreads_25_0), ([zR 1, zR 2, zI 4294978097, zI 0, zI 1, zI 4294967296], e_X9_spreads_25_1), ([zR 1, zR 2, zI 4294978097, zI 0, zI 2, zI 4294967296], e_X9_spreads_25_2), ([zR 1, zR 2, zI 4294978097, zI 0, zI 3, zI 4294967296], e_X9_spreads_25_3), ([zR 1, zR 2, zI 4294978097, zI 1, zI 0, zI 4294967296], e_X9_spreads_25_4), ([zR 1, zR 2, zI 4294978097, zI 1, zI 1, zI 4294967296], e_X9_spreads_25_5), ([zR 1, zR 2, zI 4294978097, zI 1, zI 2, zI 4294967296], e_X9_spreads_25_6), ([zR 1, zR 2, zI 4294978097, zI 1, zI 3, zI 4294967296], e_X9_spreads_25_7), ([zR 1, zR 2, zI 4294978097, zI 2, zI 0, zI 4294967296], e_X9_spreads_25_8)]
theorem we_X9_spreads_25 : zgdR 0 0 (zU) (fun f => zfn 8 (b_X9_spreadsa f)) es_X9_spreads_25 = true := by decide +kernel
theorem ev_X9_spreads_25 : zselfR 0 0 (zU) es_X9_spreads_25 [zR 1, zR 2, zI 4294978097, zI 0, zI 0, zI 4294967296] e_X9_spreads_25_0 (zrk (zU) e_X9_spreads_25_0) = true := by decide +kernel
noncomputable def g_X9_spreads_25 {d : Nat} : List zV → zH d → zP d → Bool := zsmyM [(0, 0), (0, 1), (1, 3), (1, 31), (1, 32), (1, 26), (1, 27)] [zR 1, zR 2, zI 4294978097, zI 0, zI 0, zI 4294967296] e_X9_spreads_25_0 (zU) e_X9_spreads_25_0
theorem mg_X9_spreads_25 {d : Nat} : zMet (d := d) X_X9_spreads yX9_spreads 16 g_X9_spreads_25 := zMet_smM (mr_X9_spreadsa es_X9_spreads_25 we_X9_spreads_25 14 (by decide)) ev_X9_spreads_25
end
section
/-! the reference by summaries, by program -/
noncomputable def zk_99_zs1_99_e01_X9_spreads_0 : zT 2 := @Prod.mk (zT 1) (zT 1) ((25, 63, bg_127), (0, 12000, zun 40 12000 4294967296)) ((0, 66, bg_6), (8, 6, 594))
noncomputable def e_X9_spreads_26_0 : zH 3 := (show zT 3 from (zk_99_zs1_99_e01_X9_spreads_0, (((9, 7, 594), (10, 46656, 594)), ((11, 720, 594), (0, 0, 0)))), (7, (0, 0)))
noncomputable def e_X9_spreads_26_1 : zH 3 := (show zT 3 from (zk_99_zs1_99_e01_X9_spreads_0, (((9, 7, 1049170), (10, 46656, 594)), ((11, 720, 594), (0, 0, 0)))), (7, (0, 0)))
noncomputable def e_X9_spreads_26_2 : zH 3 := (show zT 3 from (zk_99_zs1_99_e01_X9_spreads_0, (((9, 7, 2097746), (10, 46656, 594)), ((11, 720, 594), (0, 0, 0)))), (7, (0, 0)))
noncomputable def e_X9_spreads_26_3 : zH 3 := (show zT 3 from (zk_99_zs1_99_e01_X9_spreads_0, (((9, 7, 3146322), (10, 46656, 594)), ((11, 720, 594), (0, 0, 0)))), (7, (0, 0)))
noncomputable def e_X9_spreads_26_4 : zH 3 := (show zT 3 from (zk_99_zs1_99_e01_X9_spreads_0, (((9, 7, 4194898), (10, 46656, 594)), ((11, 720, 594), (0, 0, 0)))), (7, (0, 0)))
noncomputable def e_X9_spreads_26_5 : zH 3 := (show zT 3 from (zk_99_zs1_99_e01_X9_spreads_0, (((9, 7, 4194898), (10, 46656, 594)), ((11, 720, 594), (0, 0, 0)))), (7, (0, 0)))
noncomputable def e_X9_spreads_26_6 : zH 3 := (show zT 3 from (zk_99_zs1_99_e01_X9_spreads_0, (((9, 7, 5243474), (10, 46656, 594)), ((11, 720, 594), (0, 0, 0)))), (7, (0, 0)))
noncomputable def e_X9_spreads_26_7 : zH 3 := (show zT 3 from (zk_99_zs1_99_e01_X9_spreads_0, (((9, 7, 6292050), (10, 46656, 594)), ((11, 720, 594), (0, 0, 0)))), (7, (0, 0)))
noncomputable def e_X9_spreads_26_8 : zH 3 := (show zT 3 from (zk_99_zs1_99_e01_X9_spreads_0, (((9, 7, 6292050), (10, 46656, 594)), ((11, 720, 594), (0, 0, 0)))), (7, (0, 0)))
noncomputable abbrev es_X9_spreads_26 : List (zEn 3) := [([zR 1, zR 2, zI 4294978097, zI 0, zI 0, zI 4294967296], e_X9_spreads_26_0), ([zR 1, zR 2, zI 4294978097, zI 0, zI 1, zI 4294967296], e_X9_spreads_26_1), ([zR 1, zR 2, zI 4294978097, zI 0, zI 2, zI 4294967296], e_X9_spreads_26_2), ([zR 1, zR 2, zI 4294978097, zI 0, zI 3, zI 4294967296], e_X9_spreads_26_3), ([zR 1, zR 2, zI 4294978097, zI 0, zI 4, zI 4294967296], e_X9_spreads_26_4), ([zR 1, zR 2, zI 4294978097, zI 1, zI 0, zI 4294967296], e_X9_spreads_26_5), ([zR 1, zR 2, zI 4294978097, zI 1, zI 1, zI 4294967296], e_X9_spreads_26_6), ([zR 1, zR 2, zI 4294978097, zI 1, zI 2, zI 4294967296], e_X9_spreads_26_7), ([zR 1, zR 2, zI 4294978097, zI 2, zI 0, zI 4294967296], e_X9_spreads_26_8)]
theorem we_X9_spreads_26 : zgdR 0 0 (zU) (fun f => zfn 8 (b_X9_spreadsa f)) es_X9_spreads_26 = true := by decide +kernel
theorem ev_X9_spreads_26 : zselfR 0 0 (zU) es_X9_spreads_26 [zR 1, zR 2, zI 4294978097, zI 0, zI 0, zI 4294967296] e_X9_spreads_26_0 (zrk (zU) e_X9_spreads_26_0) = true := by decide +kernel
noncomputable def g_X9_spreads_26 {d : Nat} : List zV → zH d → zP d → Bool := zsmyM [(0, 0), (0, 1), (1, 3), (1, 31), (1, 32), (1, 26), (1, 27)] [zR 1, zR 2, zI 4294978097, zI 0, zI 0, zI 4294967296] e_X9_spreads_26_0 (zU) e_X9_spreads_26_0
theorem mg_X9_spreads_26 {d : Nat} : zMet (d := d) X_X9_spreads yX9_spreads 16 g_X9_spreads_26 := zMet_smM (mr_X9_spreadsa es_X9_spreads_26 we_X9_spreads_26 14 (by decide)) ev_X9_spreads_26
noncomputable def zk_99_zs1_99_e01_X9_spreads_1 : zT 2 := @Prod.mk (zT 1) (zT 1) ((25, 63, bg_128), (0, 12000, zun 40 12000 4294967296)) ((0, 66, bg_6), (8, 6, 4682))
noncomputable def e_X9_spreads_27_0 : zH 3 := (show zT 3 from (zk_99_zs1_99_e01_X9_spreads_1, (((9, 7, 4682), (10, 46656, 4682)), ((11, 720, 4682), (0, 0, 0)))), (7, (0, 0)))
noncomputable def e_X9_spreads_27_1 : zH 3 := (show zT 3 from (zk_99_zs1_99_e01_X9_spreads_1, (((9, 7, 1053258), (10, 46656, 4682)), ((11, 720, 4682), (0, 0, 0)))), (7, (0, 0)))
noncomputable def e_X9_spreads_27_2 : zH 3 := (show zT 3 from (zk_99_zs1_99_e01_X9_spreads_1, (((9, 7, 2101834), (10, 46656, 4682)), ((11, 720, 4682), (0, 0, 0)))), (7, (0, 0)))
noncomputable def e_X9_spreads_27_3 : zH 3 := (show zT 3 from (zk_99_zs1_99_e01_X9_spreads_1, (((9, 7, 3150410), (10, 46656, 4682)), ((11, 720, 4682), (0, 0, 0)))), (7, (0, 0)))
noncomputable def e_X9_spreads_27_4 : zH 3 := (show zT 3 from (zk_99_zs1_99_e01_X9_spreads_1, (((9, 7, 4198986), (10, 46656, 4682)), ((11, 720, 4682), (0, 0, 0)))), (7, (0, 0)))
noncomputable def e_X9_spreads_27_5 : zH 3 := (show zT 3 from (zk_99_zs1_99_e01_X9_spreads_1, (((9, 7, 5247562), (10, 46656, 4682)), ((11, 720, 4682), (0, 0, 0)))), (7, (0, 0)))
noncomputable def e_X9_spreads_27_6 : zH 3 := (show zT 3 from (zk_99_zs1_99_e01_X9_spreads_1, (((9, 7, 5247562), (10, 46656, 4682)), ((11, 720, 4682), (0, 0, 0)))), (7, (0, 0)))
noncomputable def e_X9_spreads_27_7 : zH 3 := (show zT 3 from (zk_99_zs1_99_e01_X9_spreads_1, (((9, 7, 6296138), (10, 46656, 4682)), ((11, 720, 4682), (0, 0, 0)))), (7, (0, 0)))
noncomputable def e_X9_spreads_27_8 : zH 3 := (show zT 3 from (zk_99_zs1_99_e01_X9_spreads_1, (((9, 7, 6296138), (10, 46656, 4682)), ((11, 720, 4682), (0, 0, 0)))), (7, (0, 0)))
noncomputable abbrev es_X9_spreads_27 : List (zEn 3) := [([zR 1, zR 2, zI 4294978097, zI 0, zI 0, zI 4294967296], e_X9_spreads_27_0), ([zR 1, zR 2, zI 4294978097, zI 0, zI 1, zI 4294967296], e_X9_spreads_27_1), ([zR 1, zR 2, zI 4294978097, zI 0, zI 2, zI 4294967296], e_X9_spreads_27_2), ([zR 1, zR 2, zI 4294978097, zI 0, zI 3, zI 4294967296], e_X9_spreads_27_3), ([zR 1, zR 2, zI 4294978097, zI 0, zI 4, zI 4294967296], e_X9_spreads_27_4), ([zR 1, zR 2, zI 4294978097, zI 0, zI 5, zI 4294967296], e_X9_spreads_27_5), ([zR 1, zR 2, zI 4294978097, zI 1, zI 0, zI 4294967296], e_X9_spreads_27_6), ([zR 1, zR 2, zI 4294978097, zI 1, zI 1, zI 4294967296], e_X9_spreads_27_7), ([zR 1, zR 2, zI 4294978097, zI 2, zI 0, zI 4294967296], e_X9_spreads_27_8)]
theorem we_X9_spreads_27 : zgdR 0 0 (zU) (fun f => zfn 8 (b_X9_spreadsa f)) es_X9_spreads_27 = true := by decide +kernel
theorem ev_X9_spreads_27 : zselfR 0 0 (zU) es_X9_spreads_27 [zR 1, zR 2, zI 4294978097, zI 0, zI 0, zI 4294967296] e_X9_spreads_27_0 (zrk (zU) e_X9_spreads_27_0) = true := by decide +kernel
noncomputable def g_X9_spreads_27 {d : Nat} : List zV → zH d → zP d → Bool := zsmyM [(0, 0), (0, 1), (1, 3), (1, 31), (1, 32), (1, 26), (1, 27)] [zR 1, zR 2, zI 4294978097, zI 0, zI 0, zI 4294967296] e_X9_spreads_27_0 (zU) e_X9_spreads_27_0
theorem mg_X9_spreads_27 {d : Nat} : zMet (d := d) X_X9_spreads yX9_spreads 16 g_X9_spreads_27 := zMet_smM (mr_X9_spreadsa es_X9_spreads_27 we_X9_spreads_27 14 (by decide)) ev_X9_spreads_27
noncomputable def zk_99_zs1_99_e01_X9_spreads_2 : zT 2 := @Prod.mk (zT 1) (zT 1) ((25, 63, bg_129), (0, 12000, zun 40 12000 4294967296)) ((0, 66, bg_6), (8, 6, 37449))
noncomputable def e_X9_spreads_28_0 : zH 3 := (show zT 3 from (zk_99_zs1_99_e01_X9_spreads_2, (((9, 7, 37449), (10, 46656, 37449)), ((11, 720, 37449), (0, 0, 0)))), (7, (0, 0)))
noncomputable def e_X9_spreads_28_1 : zH 3 := (show zT 3 from (zk_99_zs1_99_e01_X9_spreads_2, (((9, 7, 1086025), (10, 46656, 37449)), ((11, 720, 37449), (0, 0, 0)))), (7, (0, 0)))
noncomputable def e_X9_spreads_28_2 : zH 3 := (show zT 3 from (zk_99_zs1_99_e01_X9_spreads_2, (((9, 7, 2134601), (10, 46656, 37449)), ((11, 720, 37449), (0, 0, 0)))), (7, (0, 0)))
noncomputable def e_X9_spreads_28_3 : zH 3 := (show zT 3 from (zk_99_zs1_99_e01_X9_spreads_2, (((9, 7, 3183177), (10, 46656, 37449)), ((11, 720, 37449), (0, 0, 0)))), (7, (0, 0)))
noncomputable def e_X9_spreads_28_4 : zH 3 := (show zT 3 from (zk_99_zs1_99_e01_X9_spreads_2, (((9, 7, 4231753), (10, 46656, 37449)), ((11, 720, 37449), (0, 0, 0)))), (7, (0, 0)))
noncomputable def e_X9_spreads_28_5 : zH 3 := (show zT 3 from (zk_99_zs1_99_e01_X9_spreads_2, (((9, 7, 5280329), (10, 46656, 37449)), ((11, 720, 37449), (0, 0, 0)))), (7, (0, 0)))
noncomputable def e_X9_spreads_28_6 : zH 3 := (show zT 3 from (zk_99_zs1_99_e01_X9_spreads_2, (((9, 7, 6328905), (10, 46656, 37449)), ((11, 720, 37449), (0, 0, 0)))), (7, (0, 0)))
noncomputable def e_X9_spreads_28_7 : zH 3 := (show zT 3 from (zk_99_zs1_99_e01_X9_spreads_2, (((9, 7, 6328905), (10, 46656, 37449)), ((11, 720, 37449), (0, 0, 0)))), (7, (0, 0)))
noncomputable abbrev es_X9_spreads_28 : List (zEn 3) := [([zR 1, zR 2, zI 4294978097, zI 0, zI 0, zI 4294967296], e_X9_spreads_28_0), ([zR 1, zR 2, zI 4294978097, zI 0, zI 1, zI 4294967296], e_X9_spreads_28_1), ([zR 1, zR 2, zI 4294978097, zI 0, zI 2, zI 4294967296], e_X9_spreads_28_2), ([zR 1, zR 2, zI 4294978097, zI 0, zI 3, zI 4294967296], e_X9_spreads_28_3), ([zR 1, zR 2, zI 4294978097, zI 0, zI 4, zI 4294967296], e_X9_spreads_28_4), ([zR 1, zR 2, zI 4294978097, zI 0, zI 5, zI 4294967296], e_X9_spreads_28_5), ([zR 1, zR 2, zI 4294978097, zI 0, zI 6, zI 4294967296], e_X9_spreads_28_6), ([zR 1, zR 2, zI 4294978097, zI 1, zI 0, zI 4294967296], e_X9_spreads_28_7)]
theorem we_X9_spreads_28 : zgdR 0 0 (zU) (fun f => zfn 8 (b_X9_spreadsa f)) es_X9_spreads_28 = true := by decide +kernel
theorem ev_X9_spreads_28 : zselfR 0 0 (zU) es_X9_spreads_28 [zR 1, zR 2, zI 4294978097, zI 0, zI 0, zI 4294967296] e_X9_spreads_28_0 (zrk (zU) e_X9_spreads_28_0) = true := by decide +kernel
noncomputable def g_X9_spreads_28 {d : Nat} : List zV → zH d → zP d → Bool := zsmyM [(0, 0), (0, 1), (1, 3), (1, 31), (1, 32), (1, 26), (1, 27)] [zR 1, zR 2, zI 4294978097, zI 0, zI 0, zI 4294967296] e_X9_spreads_28_0 (zU) e_X9_spreads_28_0
theorem mg_X9_spreads_28 {d : Nat} : zMet (d := d) X_X9_spreads yX9_spreads 16 g_X9_spreads_28 := zMet_smM (mr_X9_spreadsa es_X9_spreads_28 we_X9_spreads_28 14 (by decide)) ev_X9_spreads_28
set_option maxRecDepth 100000 in
noncomputable def gs_X9_spreads {d : Nat} : List zV → zH d → zP d → Bool := zwt (hsK (hsF 0 [] 0) (hsF 0 [] 25)) [(2049, g_X9_spreads_0), (3073, g_X9_spreads_1), (3074, g_X9_spreads_2), (4097, g_X9_spreads_3), (4098, g_X9_spreads_4), (4099, g_X9_spreads_5), (5121, g_X9_spreads_6), (5122, g_X9_spreads_7), (5123, g_X9_spreads_8), (5124, g_X9_spreads_9), (5125, g_X9_spreads_10), (6145, g_X9_spreads_11), (6146, g_X9_spreads_12), (6147, g_X9_spreads_13), (6148, g_X9_spreads_14), (6149, g_X9_spreads_15), (6150, g_X9_spreads_16), (6151, g_X9_spreads_17), (7169, g_X9_spreads_18), (7170, g_X9_spreads_19), (7171, g_X9_spreads_20), (7172, g_X9_spreads_21), (7173, g_X9_spreads_22), (7174, g_X9_spreads_23), (7175, g_X9_spreads_24), (7176, g_X9_spreads_25), (7177, g_X9_spreads_26), (7178, g_X9_spreads_27), (7179, g_X9_spreads_28)]
set_option maxRecDepth 100000 in
theorem mgs_X9_spreads {d : Nat} : zMet (d := d) X_X9_spreads yX9_spreads 16 gs_X9_spreads := zMet_wt (hsK_ok hsF_ok hsF_ok) (zwt_c mg_X9_spreads_0 (zwt_c mg_X9_spreads_1 (zwt_c mg_X9_spreads_2 (zwt_c mg_X9_spreads_3 (zwt_c mg_X9_spreads_4 (zwt_c mg_X9_spreads_5 (zwt_c mg_X9_spreads_6 (zwt_c mg_X9_spreads_7 (zwt_c mg_X9_spreads_8 (zwt_c mg_X9_spreads_9 (zwt_c mg_X9_spreads_10 (zwt_c mg_X9_spreads_11 (zwt_c mg_X9_spreads_12 (zwt_c mg_X9_spreads_13 (zwt_c mg_X9_spreads_14 (zwt_c mg_X9_spreads_15 (zwt_c mg_X9_spreads_16 (zwt_c mg_X9_spreads_17 (zwt_c mg_X9_spreads_18 (zwt_c mg_X9_spreads_19 (zwt_c mg_X9_spreads_20 (zwt_c mg_X9_spreads_21 (zwt_c mg_X9_spreads_22 (zwt_c mg_X9_spreads_23 (zwt_c mg_X9_spreads_24 (zwt_c mg_X9_spreads_25 (zwt_c mg_X9_spreads_26 (zwt_c mg_X9_spreads_27 (zwt_c mg_X9_spreads_28 zwt_n)))))))))))))))))))))))))))))
end
