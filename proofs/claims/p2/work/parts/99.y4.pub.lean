/-! public methods, by program -/

noncomputable def bX8_slotsInUset_42 {d : Nat} (P : zP d) (r12 : zK d) : zK d := (xincR 3 1 r12)
set_option maxRecDepth 100000 in
set_option maxHeartbeats 4000000 in
theorem sbX8_slotsInUset_42 {d : Nat} [zGh] (P : zP d) (r12 : zK d) (hr12 : zSimJ 1 X_X8_slotsInUse 1 P 12 r12) : zSim X_X8_slotsInUse 1 P 42 (bX8_slotsInUset_42 P r12) := by
  unfold bX8_slotsInUset_42
  refine sm_iincR (pc := 42) (n := 3) dX8_slotsInUse_42 zc_i_1 ?_
  refine sm_goto (pc := 45) (tgt := 12) dX8_slotsInUse_45 (by decide) ?_
  exact hr12.use
noncomputable def lX8_slotsInUset_12 {d : Nat} (P : zP d) (r12 : zK d) (r4 : zK d) : zK d := (xild 3 (xaldV 0 (xgfR 24 6 (xgfI 23 1 (xcmpS tgeR rlGe rhS rlS rhLt (xincR 2 1 r4) (xaldV 0 (xgfR 24 2 (xild 2 (xaaT (xild 3 (xlal (xpL 0 (xlcmpR (xjn (wkL 1 4294967296 wkE) (zsp [] 1) (bX8_slotsInUset_42 P r12) (fun j42 => (xif0S teqR rlEq rhEq rlNe rhNe j42 (xild 1 (xpI 1 (xild 2 (xbin zshl (xbin zor (xist 1 j42))))))))))))))))))))))
set_option maxRecDepth 100000 in
set_option maxHeartbeats 4000000 in
theorem slX8_slotsInUset_12 {d : Nat} [zGh] (P : zP d) (r12 : zK d) (r4 : zK d) (hr12 : zSimJ 1 X_X8_slotsInUse 1 P 12 r12) (hr4 : zSimJ 1 X_X8_slotsInUse 1 P 4 r4) : zSim X_X8_slotsInUse 1 P 12 (lX8_slotsInUset_12 P r12 r4) := by
  unfold lX8_slotsInUset_12
  refine sm_iload_n (pc := 12) (n := 3) dX8_slotsInUse_12 rfl ?_
  refine sm_aloadV_n (pc := 13) (n := 0) dX8_slotsInUse_13 rfl ?_
  refine gf_X8_40 (pc := 14) rfl dX8_slotsInUse_14 ?_
  refine gf_X8_74 (pc := 17) rfl dX8_slotsInUse_17 ?_
  refine sm_icmpS_ge (pc := 20) (tgt := 48) dX8_slotsInUse_20 (by decide) ?_ ?_
  · skip
    refine sm_iincR (pc := 48) (n := 2) dX8_slotsInUse_48 zc_i_1 ?_
    refine sm_goto (pc := 51) (tgt := 4) dX8_slotsInUse_51 (by decide) ?_
    exact hr4.use
  · skip
    refine sm_aloadV_n (pc := 23) (n := 0) dX8_slotsInUse_23 rfl ?_
    refine gf_X8_23 (pc := 24) rfl dX8_slotsInUse_24 ?_
    refine sm_iload_n (pc := 27) (n := 2) dX8_slotsInUse_27 rfl ?_
    refine sm_aaloadT (pc := 28) dX8_slotsInUse_28 ?_
    refine sm_iload_n (pc := 29) (n := 3) dX8_slotsInUse_29 rfl ?_
    refine sm_laload (pc := 30) dX8_slotsInUse_30 ?_
    refine sm_lconst (pc := 31) dX8_slotsInUse_31 zc_l_0 ?_
    refine sm_lcmpR (pc := 32) dX8_slotsInUse_32 ?_
    refine sm_jn (pc := 33) (pc' := 42) (j := 1) (wkL_ok wkE_ok) (zsp_ok _ _) (fun G0 hG0 => @sbX8_slotsInUset_42 d G0 P r12 (hr12.mv hG0 (by decide))) (fun j42 hj42 => ?_)
    refine sm_ifS_eq (pc := 33) (tgt := 42) dX8_slotsInUse_33 (by decide) ?_ ?_
    · skip
      exact hj42.use
    · skip
      refine sm_iload_n (pc := 36) (n := 1) dX8_slotsInUse_36 rfl ?_
      refine sm_iconst (pc := 37) dX8_slotsInUse_37 zc_i_1 ?_
      refine sm_iload_n (pc := 38) (n := 2) dX8_slotsInUse_38 rfl ?_
      refine sm_ishl (pc := 39) dX8_slotsInUse_39 ?_
      refine sm_ior (pc := 40) dX8_slotsInUse_40 ?_
      refine sm_istore_n (pc := 41) (n := 1) dX8_slotsInUse_41 rfl ?_
      exact hj42.use
noncomputable def lX8_slotsInUset_4 {d : Nat} (P : zP d) (r4 : zK d) : zK d := (xild 2 (xpI 6 (xcmpS tgeR rlGe rhS rlS rhLt (xild 1 (xiret P)) (xpI 0 (xist 3 (xloop (fun r12 => (lX8_slotsInUset_12 P r12 r4)) 100000))))))
set_option maxRecDepth 100000 in
set_option maxHeartbeats 4000000 in
theorem slX8_slotsInUset_4 {d : Nat} [zGh] (P : zP d) (r4 : zK d) (hr4 : zSimJ 1 X_X8_slotsInUse 1 P 4 r4) : zSim X_X8_slotsInUse 1 P 4 (lX8_slotsInUset_4 P r4) := by
  unfold lX8_slotsInUset_4
  refine sm_iload_n (pc := 4) (n := 2) dX8_slotsInUse_4 rfl ?_
  refine sm_bipush (pc := 5) dX8_slotsInUse_5 zc_b_6 ?_
  refine sm_icmpS_ge (pc := 7) (tgt := 54) dX8_slotsInUse_7 (by decide) ?_ ?_
  · skip
    refine sm_iload_n (pc := 54) (n := 1) dX8_slotsInUse_54 rfl ?_
    exact sm_ireturn (pc := 55) dX8_slotsInUse_55 rfl
  · skip
    refine sm_iconst (pc := 10) dX8_slotsInUse_10 zc_i_0 ?_
    refine sm_istore_n (pc := 11) (n := 3) dX8_slotsInUse_11 rfl ?_
    exact (sm_loopJ (j := 1) (fun G1 hG1 r12 hr12 => @slX8_slotsInUset_12 d G1 P r12 r4 hr12 (hr4.mv hG1 (by decide))) _).use
noncomputable def b_X8_slotsInUset {d : Nat} (P : zP d) : zK d := (xpI 0 (xist 1 (xpI 0 (xist 2 (xloop (fun r4 => (lX8_slotsInUset_4 P r4)) 100000)))))
set_option maxRecDepth 100000 in
set_option maxHeartbeats 4000000 in
theorem s_X8_slotsInUset {d : Nat} [zGh] (P : zP d) : zSim X_X8_slotsInUse 1 P 0 (b_X8_slotsInUset P) := by
  unfold b_X8_slotsInUset
  refine sm_iconst (pc := 0) dX8_slotsInUse_0 zc_i_0 ?_
  refine sm_istore_n (pc := 1) (n := 1) dX8_slotsInUse_1 rfl ?_
  refine sm_iconst (pc := 2) dX8_slotsInUse_2 zc_i_0 ?_
  refine sm_istore_n (pc := 3) (n := 2) dX8_slotsInUse_3 rfl ?_
  exact (sm_loopJ (j := 1) (fun G1 hG1 r4 hr4 => @slX8_slotsInUset_4 d G1 P r4 hr4) _).use
noncomputable def f_X8_slotsInUset {d : Nat} : List zV → zH d → zP d → Bool := zfn 4 (b_X8_slotsInUset )
theorem m_X8_slotsInUset {d : Nat} : zMet (d := d) X_X8_slotsInUse yX8_slotsInUse 1 (f_X8_slotsInUset ) := zmet_mk (X := X_X8_slotsInUse) (by decide) rfl rfl (fun P => s_X8_slotsInUset P)

noncomputable def bX8_lookt_127 {d : Nat} (P : zP d) : zK d := (xpI 4294967295 (xiret P))
set_option maxRecDepth 100000 in
set_option maxHeartbeats 4000000 in
theorem sbX8_lookt_127 {d : Nat} [zGh] (P : zP d) : zSim X_X8_look 3 P 127 (bX8_lookt_127 P) := by
  unfold bX8_lookt_127
  refine sm_iconst (pc := 127) dX8_look_127 zc_i_m1 ?_
  exact sm_ireturn (pc := 128) dX8_look_128 rfl
noncomputable def bX8_lookt_52 {d : Nat} (P : zP d) : zK d := (xaldV 0 (xgfR 24 6 (xgfI 23 0 (xiret P))))
set_option maxRecDepth 100000 in
set_option maxHeartbeats 4000000 in
theorem sbX8_lookt_52 {d : Nat} [zGh] (P : zP d) : zSim X_X8_look 3 P 52 (bX8_lookt_52 P) := by
  unfold bX8_lookt_52
  refine sm_aloadV_n (pc := 52) (n := 0) dX8_look_52 rfl ?_
  refine gf_X8_40 (pc := 53) rfl dX8_look_53 ?_
  refine gf_X8_176 (pc := 56) rfl dX8_look_56 ?_
  exact sm_ireturn (pc := 59) dX8_look_59 rfl
noncomputable def bX8_lookt_60 {d : Nat} (P : zP d) : zK d := (xaldV 0 (xgfR 24 7 (xgfI 21 1 (xiret P))))
set_option maxRecDepth 100000 in
set_option maxHeartbeats 4000000 in
theorem sbX8_lookt_60 {d : Nat} [zGh] (P : zP d) : zSim X_X8_look 3 P 60 (bX8_lookt_60 P) := by
  unfold bX8_lookt_60
  refine sm_aloadV_n (pc := 60) (n := 0) dX8_look_60 rfl ?_
  refine gf_X8_47 (pc := 61) rfl dX8_look_61 ?_
  refine gf_X8_179 (pc := 64) rfl dX8_look_64 ?_
  exact sm_ireturn (pc := 67) dX8_look_67 rfl
noncomputable def bX8_lookt_68 {d : Nat} (P : zP d) : zK d := (xaldV 0 (xgfR 24 6 (xgfI 23 1 (xiret P))))
set_option maxRecDepth 100000 in
set_option maxHeartbeats 4000000 in
theorem sbX8_lookt_68 {d : Nat} [zGh] (P : zP d) : zSim X_X8_look 3 P 68 (bX8_lookt_68 P) := by
  unfold bX8_lookt_68
  refine sm_aloadV_n (pc := 68) (n := 0) dX8_look_68 rfl ?_
  refine gf_X8_40 (pc := 69) rfl dX8_look_69 ?_
  refine gf_X8_74 (pc := 72) rfl dX8_look_72 ?_
  exact sm_ireturn (pc := 75) dX8_look_75 rfl
noncomputable def bX8_lookt_76 {d : Nat} (P : zP d) : zK d := (xaldV 0 (xgfR 24 7 (xgfI 21 3 (xiret P))))
set_option maxRecDepth 100000 in
set_option maxHeartbeats 4000000 in
theorem sbX8_lookt_76 {d : Nat} [zGh] (P : zP d) : zSim X_X8_look 3 P 76 (bX8_lookt_76 P) := by
  unfold bX8_lookt_76
  refine sm_aloadV_n (pc := 76) (n := 0) dX8_look_76 rfl ?_
  refine gf_X8_47 (pc := 77) rfl dX8_look_77 ?_
  refine gf_X8_291 (pc := 80) rfl dX8_look_80 ?_
  exact sm_ireturn (pc := 83) dX8_look_83 rfl
noncomputable def bX8_lookt_84 {d : Nat} (P : zP d) : zK d := (xaldV 0 (xgfR 24 7 (xgfR 21 10 (xgfI 16 3 (xiret P)))))
set_option maxRecDepth 100000 in
set_option maxHeartbeats 4000000 in
theorem sbX8_lookt_84 {d : Nat} [zGh] (P : zP d) : zSim X_X8_look 3 P 84 (bX8_lookt_84 P) := by
  unfold bX8_lookt_84
  refine sm_aloadV_n (pc := 84) (n := 0) dX8_look_84 rfl ?_
  refine gf_X8_47 (pc := 85) rfl dX8_look_85 ?_
  refine gf_X8_152 (pc := 88) rfl dX8_look_88 ?_
  refine gf_X8_236 (pc := 91) rfl dX8_look_91 ?_
  exact sm_ireturn (pc := 94) dX8_look_94 rfl
noncomputable def bX8_lookt_95 {d : Nat} (P : zP d) : zK d := (xaldV 0 (xgfR 24 6 (xgfI 23 2 (xiret P))))
set_option maxRecDepth 100000 in
set_option maxHeartbeats 4000000 in
theorem sbX8_lookt_95 {d : Nat} [zGh] (P : zP d) : zSim X_X8_look 3 P 95 (bX8_lookt_95 P) := by
  unfold bX8_lookt_95
  refine sm_aloadV_n (pc := 95) (n := 0) dX8_look_95 rfl ?_
  refine gf_X8_40 (pc := 96) rfl dX8_look_96 ?_
  refine gf_X8_266 (pc := 99) rfl dX8_look_99 ?_
  exact sm_ireturn (pc := 102) dX8_look_102 rfl
noncomputable def bX8_lookt_103 {d : Nat} (P : zP d) : zK d := (xaldV 0 (xgfR 24 4 (xgfI 22 1 (xiret P))))
set_option maxRecDepth 100000 in
set_option maxHeartbeats 4000000 in
theorem sbX8_lookt_103 {d : Nat} [zGh] (P : zP d) : zSim X_X8_look 3 P 103 (bX8_lookt_103 P) := by
  unfold bX8_lookt_103
  refine sm_aloadV_n (pc := 103) (n := 0) dX8_look_103 rfl ?_
  refine gf_X8_33 (pc := 104) rfl dX8_look_104 ?_
  refine gf_X8_85 (pc := 107) rfl dX8_look_107 ?_
  exact sm_ireturn (pc := 110) dX8_look_110 rfl
noncomputable def bX8_lookt_111 {d : Nat} (P : zP d) : zK d := (xaldV 0 (xcV 24 1 0 0 (zstr f_X8_slotsInUset) (xiret P)))
set_option maxRecDepth 100000 in
set_option maxHeartbeats 4000000 in
theorem sbX8_lookt_111 {d : Nat} [zGh] (P : zP d) : zSim X_X8_look 3 P 111 (bX8_lookt_111 P) := by
  unfold bX8_lookt_111
  refine sm_aloadV_n (pc := 111) (n := 0) dX8_look_111 rfl ?_
  refine sm_cV (pc := 112) (ci := 8) (n := 1) (mc := 0) (ms := 0) rfl (zMet_str m_X8_slotsInUset) (cr_X8_294 (X := X_X8_look) (fr := 3) (frc := 1) (pc := 112) (mc := 0) (ms := 0) rfl (by decide) dX8_look_112) ?_
  exact sm_ireturn (pc := 115) dX8_look_115 rfl
noncomputable def bX8_lookt_116 {d : Nat} (P : zP d) : zK d := (xaldV 0 (xgfR 24 7 (xgfR 21 10 (xcV 16 1 0 0 (zstr f_X0_withoutDefect) (xiret P)))))
set_option maxRecDepth 100000 in
set_option maxHeartbeats 4000000 in
theorem sbX8_lookt_116 {d : Nat} [zGh] (P : zP d) : zSim X_X8_look 3 P 116 (bX8_lookt_116 P) := by
  unfold bX8_lookt_116
  refine sm_aloadV_n (pc := 116) (n := 0) dX8_look_116 rfl ?_
  refine gf_X8_47 (pc := 117) rfl dX8_look_117 ?_
  refine gf_X8_152 (pc := 120) rfl dX8_look_120 ?_
  refine sm_cV (pc := 123) (ci := 0) (n := 1) (mc := 0) (ms := 0) rfl (zMet_str m_X0_withoutDefect) (cr_X8_298 (X := X_X8_look) (fr := 3) (frc := 2) (pc := 123) (mc := 0) (ms := 0) rfl (by decide) dX8_look_123) ?_
  exact sm_ireturn (pc := 126) dX8_look_126 rfl
noncomputable def b_X8_lookt {d : Nat} (P : zP d) : zK d := (xild 1 (xtswR 8 [(bX8_lookt_52 P), (bX8_lookt_60 P), (bX8_lookt_68 P), (bX8_lookt_76 P), (bX8_lookt_84 P), (bX8_lookt_95 P), (bX8_lookt_103 P), (bX8_lookt_111 P), (bX8_lookt_116 P)] (bX8_lookt_127 P)))
set_option maxRecDepth 100000 in
set_option maxHeartbeats 4000000 in
theorem s_X8_lookt {d : Nat} [zGh] (P : zP d) : zSim X_X8_look 3 P 0 (b_X8_lookt P) := by
  unfold b_X8_lookt
  refine sm_iload_n (pc := 0) (n := 1) dX8_look_0 rfl ?_
  exact sm_tswR (pc := 1) (n := 8) (tdf := 127) [52, 60, 68, 76, 84, 95, 103, 111, 116] rfl (by decide) dX8_look_1 rfl (by decide +kernel) (by decide) (sbX8_lookt_127 P) ⟨sbX8_lookt_52 P, sbX8_lookt_60 P, sbX8_lookt_68 P, sbX8_lookt_76 P, sbX8_lookt_84 P, sbX8_lookt_95 P, sbX8_lookt_103 P, sbX8_lookt_111 P, sbX8_lookt_116 P, trivial⟩
noncomputable def f_X8_lookt {d : Nat} : List zV → zH d → zP d → Bool := zfn 2 (b_X8_lookt )
theorem m_X8_lookt {d : Nat} : zMet (d := d) X_X8_look yX8_look 3 (f_X8_lookt ) := zmet_mk (X := X_X8_look) (by decide) rfl rfl (fun P => s_X8_lookt P)

noncomputable def bX8_partst_24 {d : Nat} (P : zP d) : zK d := (xpL 9223372036854775808 (xlret P))
set_option maxRecDepth 100000 in
set_option maxHeartbeats 4000000 in
theorem sbX8_partst_24 {d : Nat} [zGh] (P : zP d) : zSim X_X8_parts 2 P 24 (bX8_partst_24 P) := by
  unfold bX8_partst_24
  refine sm_ldc2 (pc := 24) dX8_parts_24 wd_850 zc_cl_m9223372036854775808 ?_
  exact sm_lreturn (pc := 27) dX8_parts_27 rfl
noncomputable def bX8_partst_133 {d : Nat} (P : zP d) : zK d := (xlret P)
set_option maxRecDepth 100000 in
set_option maxHeartbeats 4000000 in
theorem sbX8_partst_133 {d : Nat} [zGh] (P : zP d) : zSim X_X8_parts 2 P 133 (bX8_partst_133 P) := by
  unfold bX8_partst_133
  exact sm_lreturn (pc := 133) dX8_parts_133 rfl
noncomputable def cX8_partst_129 {d : Nat} (P : zP d) (j133 : zK d) : zK d := (xi2lR (xlld 7 (xdvT j133)))
set_option maxRecDepth 100000 in
set_option maxHeartbeats 4000000 in
theorem scX8_partst_129 {d : Nat} [zGh] (P : zP d) (j133 : zK d) (hj133 : zSimJ 1 X_X8_parts 2 P 133 j133) : zSim X_X8_parts 2 P 129 (cX8_partst_129 P j133) := by
  unfold cX8_partst_129
  refine sm_i2lR (pc := 129) dX8_parts_129 ?_
  refine sm_lload (pc := 130) (n := 7) dX8_parts_130 ?_
  refine sm_ldivT (pc := 132) dX8_parts_132 ?_
  exact hj133.use
noncomputable def cX8_partst_119 {d : Nat} (P : zP d) (j133 : zK d) : zK d := j133
set_option maxRecDepth 100000 in
set_option maxHeartbeats 4000000 in
theorem scX8_partst_119 {d : Nat} [zGh] (P : zP d) (j133 : zK d) (hj133 : zSimJ 1 X_X8_parts 2 P 133 j133) : zSim X_X8_parts 2 P 119 (cX8_partst_119 P j133) := by
  unfold cX8_partst_119
  refine sm_goto (pc := 119) (tgt := 133) dX8_parts_119 (by decide) ?_
  exact hj133.use
noncomputable def bX8_partst_65 {d : Nat} (P : zP d) : zK d := (xaldV 0 (xaldV 0 (xgfR 24 2 (xild 1 (xaaT (xild 2 (xild 4 (xcV 24 4 0 0 (zstr f_X8_timesFactorial) (xlst 5 (xlld 5 (xabsN (xaldV 0 (xgfR 24 6 (xgfI 23 2 (xi2lR (xcS 2 0 0 (zstr gX_X8_greatestDivisor) (xlst 7 (xlz 7 (xpL 9223372036854775808 (xlret P)) (xild 3 (xpI 2 (xjoin (bX8_partst_133 P) (fun j133 => (xcmpS tgeR rlGe rhS rlS rhLt (xaldV 0 (xgfR 24 6 (xgfI 23 2 (cX8_partst_129 P j133)))) (xlld 5 (xlld 7 (xdvT (cX8_partst_119 P j133)))))))))))))))))))))))))))
set_option maxRecDepth 100000 in
set_option maxHeartbeats 4000000 in
theorem sbX8_partst_65 {d : Nat} [zGh] (P : zP d) : zSim X_X8_parts 2 P 65 (bX8_partst_65 P) := by
  unfold bX8_partst_65
  refine sm_aloadV_n (pc := 65) (n := 0) dX8_parts_65 rfl ?_
  refine sm_aloadV_n (pc := 66) (n := 0) dX8_parts_66 rfl ?_
  refine gf_X8_23 (pc := 67) rfl dX8_parts_67 ?_
  refine sm_iload_n (pc := 70) (n := 1) dX8_parts_70 rfl ?_
  refine sm_aaloadT (pc := 71) dX8_parts_71 ?_
  refine sm_iload_n (pc := 72) (n := 2) dX8_parts_72 rfl ?_
  refine sm_iload (pc := 73) (n := 4) dX8_parts_73 ?_
  refine sm_cV (pc := 75) (ci := 8) (n := 4) (mc := 0) (ms := 0) rfl (zMet_str m_X8_timesFactorial) (cr_X8_256 (X := X_X8_parts) (fr := 2) (frc := 1) (pc := 75) (mc := 0) (ms := 0) rfl (by decide) dX8_parts_75) ?_
  refine sm_lstore (pc := 78) (n := 5) dX8_parts_78 ?_
  refine sm_lload (pc := 80) (n := 5) dX8_parts_80 ?_
  refine sm_mabsN (pc := 82) wd_859 wd_763 wd_6 wd_764 (by decide) dX8_parts_82 ?_
  refine sm_aloadV_n (pc := 85) (n := 0) dX8_parts_85 rfl ?_
  refine gf_X8_40 (pc := 86) rfl dX8_parts_86 ?_
  refine gf_X8_266 (pc := 89) rfl dX8_parts_89 ?_
  refine sm_i2lR (pc := 92) dX8_parts_92 ?_
  refine sm_cS (pc := 93) (n := 2) (mc := 0) (ms := 0) (zMet_str mX_X8_greatestDivisor) (cr_X8_269 (X := X_X8_parts) (fr := 2) (frc := 1) (pc := 93) (mc := 0) (ms := 0) rfl (by decide) dX8_parts_93) ?_
  refine sm_lstore (pc := 96) (n := 7) dX8_parts_96 ?_
  refine sm_lzne (pc := 98) (pc' := 100) (n := 7) (tgt := 109) (fun hx hb hl kk => lv_lload hx hb dX8_parts_98 hl kk) dX8_parts_100 rfl dX8_parts_101 dX8_parts_102 (by decide) ?_ ?_
  · skip
    refine sm_iload_n (pc := 109) (n := 3) dX8_parts_109 rfl ?_
    refine sm_iconst (pc := 110) dX8_parts_110 zc_i_2 ?_
    refine sm_joinJ (pc := 111) (pc' := 133) (j := 1) (fun G0 hG0 => @sbX8_partst_133 d G0 P) (fun j133 hj133 => ?_)
    refine sm_icmpS_ge (pc := 111) (tgt := 122) dX8_parts_111 (by decide) ?_ ?_
    · skip
      refine sm_aloadV_n (pc := 122) (n := 0) dX8_parts_122 rfl ?_
      refine gf_X8_40 (pc := 123) rfl dX8_parts_123 ?_
      refine gf_X8_266 (pc := 126) rfl dX8_parts_126 ?_
      exact scX8_partst_129 P j133 hj133
    · skip
      refine sm_lload (pc := 114) (n := 5) dX8_parts_114 ?_
      refine sm_lload (pc := 116) (n := 7) dX8_parts_116 ?_
      refine sm_ldivT (pc := 118) dX8_parts_118 ?_
      exact scX8_partst_119 P j133 hj133
  · skip
    refine sm_ldc2 (pc := 105) dX8_parts_105 wd_850 zc_cl_m9223372036854775808 ?_
    exact sm_lreturn (pc := 108) dX8_parts_108 rfl
noncomputable def bX8_partst_43 {d : Nat} (P : zP d) : zK d := (xist 4 (xild 4 (xjoin (bX8_partst_65 P) (fun j65 => (xif0S teqR rlEq rhEq rlNe rhNe j65 (xaldV 0 (xgfR 24 7 (xild 2 (xcV 21 2 0 0 (zstr f_X5_isRegular) (xif0S teqR rlEq rhEq rlNe rhNe (xpL 9223372036854775808 (xlret P)) j65))))))))))
set_option maxRecDepth 100000 in
set_option maxHeartbeats 4000000 in
theorem sbX8_partst_43 {d : Nat} [zGh] (P : zP d) : zSim X_X8_parts 2 P 43 (bX8_partst_43 P) := by
  unfold bX8_partst_43
  refine sm_istore (pc := 43) (n := 4) dX8_parts_43 ?_
  refine sm_iload (pc := 45) (n := 4) dX8_parts_45 ?_
  refine sm_joinJ (pc := 47) (pc' := 65) (j := 1) (fun G0 hG0 => @sbX8_partst_65 d G0 P) (fun j65 hj65 => ?_)
  refine sm_ifS_eq (pc := 47) (tgt := 65) dX8_parts_47 (by decide) ?_ ?_
  · skip
    exact hj65.use
  · skip
    refine sm_aloadV_n (pc := 50) (n := 0) dX8_parts_50 rfl ?_
    refine gf_X8_47 (pc := 51) rfl dX8_parts_51 ?_
    refine sm_iload_n (pc := 54) (n := 2) dX8_parts_54 rfl ?_
    refine sm_cV (pc := 55) (ci := 5) (n := 2) (mc := 0) (ms := 0) rfl (zMet_str m_X5_isRegular) (cr_X8_145 (X := X_X8_parts) (fr := 2) (frc := 1) (pc := 55) (mc := 0) (ms := 0) rfl (by decide) dX8_parts_55) ?_
    refine sm_ifS_ne (pc := 58) (tgt := 65) dX8_parts_58 (by decide) ?_ ?_
    · skip
      exact hj65.use
    · skip
      refine sm_ldc2 (pc := 61) dX8_parts_61 wd_850 zc_cl_m9223372036854775808 ?_
      exact sm_lreturn (pc := 64) dX8_parts_64 rfl
noncomputable def bX8_partst_38 {d : Nat} (P : zP d) (j43 : zK d) : zK d := (xpI 1 j43)
set_option maxRecDepth 100000 in
set_option maxHeartbeats 4000000 in
theorem sbX8_partst_38 {d : Nat} [zGh] (P : zP d) (j43 : zK d) (hj43 : zSimJ 1 X_X8_parts 2 P 43 j43) : zSim X_X8_parts 2 P 38 (bX8_partst_38 P j43) := by
  unfold bX8_partst_38
  refine sm_iconst (pc := 38) dX8_parts_38 zc_i_1 ?_
  refine sm_goto (pc := 39) (tgt := 43) dX8_parts_39 (by decide) ?_
  exact hj43.use
noncomputable def b_X8_partst {d : Nat} (P : zP d) : zK d := (xild 1 (xcS 1 0 0 (zstr f_X8_isSlota) (xjoin (bX8_partst_24 P) (fun j24 => (xif0S teqR rlEq rhEq rlNe rhNe j24 (xaldV 0 (xild 2 (xcV 24 2 0 0 (zstr f_X8_isPartitiona) (xif0S teqR rlEq rhEq rlNe rhNe j24 (xild 3 (xif0S tgeR rlGe rhS rlS rhLt (xild 3 (xpI 3 (xcmpS tleR rlS rhLe rlGt rhS (xild 3 (xpI 1 (xjoin (bX8_partst_43 P) (fun j43 => (xjoin (bX8_partst_38 P j43) (fun j38 => (xcmpS teqR rlEq rhEq rlNe rhNe j38 (xild 3 (xpI 3 (xcmpS teqR rlEq rhEq rlNe rhNe j38 (xpI 0 j43))))))))))) j24))) j24)))))))))))
set_option maxRecDepth 100000 in
set_option maxHeartbeats 4000000 in
theorem s_X8_partst {d : Nat} [zGh] (P : zP d) : zSim X_X8_parts 2 P 0 (b_X8_partst P) := by
  unfold b_X8_partst
  refine sm_iload_n (pc := 0) (n := 1) dX8_parts_0 rfl ?_
  refine sm_cS (pc := 1) (n := 1) (mc := 0) (ms := 0) (zMet_str m_X8_isSlota) (cr_X8_88 (X := X_X8_parts) (fr := 2) (frc := 1) (pc := 1) (mc := 0) (ms := 0) rfl (by decide) dX8_parts_1) ?_
  refine sm_joinJ (pc := 4) (pc' := 24) (j := 1) (fun G0 hG0 => @sbX8_partst_24 d G0 P) (fun j24 hj24 => ?_)
  refine sm_ifS_eq (pc := 4) (tgt := 24) dX8_parts_4 (by decide) ?_ ?_
  · skip
    exact hj24.use
  · skip
    refine sm_aloadV_n (pc := 7) (n := 0) dX8_parts_7 rfl ?_
    refine sm_iload_n (pc := 8) (n := 2) dX8_parts_8 rfl ?_
    refine sm_cV (pc := 9) (ci := 8) (n := 2) (mc := 0) (ms := 0) rfl (zMet_str m_X8_isPartitiona) (cr_X8_126 (X := X_X8_parts) (fr := 2) (frc := 1) (pc := 9) (mc := 0) (ms := 0) rfl (by decide) dX8_parts_9) ?_
    refine sm_ifS_eq (pc := 12) (tgt := 24) dX8_parts_12 (by decide) ?_ ?_
    · skip
      exact hj24.use
    · skip
      refine sm_iload_n (pc := 15) (n := 3) dX8_parts_15 rfl ?_
      refine sm_ifS_lt (pc := 16) (tgt := 24) dX8_parts_16 (by decide) ?_ ?_
      · skip
        exact hj24.use
      · skip
        refine sm_iload_n (pc := 19) (n := 3) dX8_parts_19 rfl ?_
        refine sm_iconst (pc := 20) dX8_parts_20 zc_i_3 ?_
        refine sm_icmpS_le (pc := 21) (tgt := 28) dX8_parts_21 (by decide) ?_ ?_
        · skip
          refine sm_iload_n (pc := 28) (n := 3) dX8_parts_28 rfl ?_
          refine sm_iconst (pc := 29) dX8_parts_29 zc_i_1 ?_
          refine sm_joinJ (pc := 30) (pc' := 43) (j := 1) (fun G0 hG0 => @sbX8_partst_43 d G0 P) (fun j43 hj43 => ?_)
          refine sm_joinJ (pc := 30) (pc' := 38) (j := 1) (fun G0 hG0 => @sbX8_partst_38 d G0 P j43 (hj43.mv hG0 (by decide))) (fun j38 hj38 => ?_)
          refine sm_icmpS_eq (pc := 30) (tgt := 38) dX8_parts_30 (by decide) ?_ ?_
          · skip
            exact hj38.use
          · skip
            refine sm_iload_n (pc := 33) (n := 3) dX8_parts_33 rfl ?_
            refine sm_iconst (pc := 34) dX8_parts_34 zc_i_3 ?_
            refine sm_icmpS_ne (pc := 35) (tgt := 42) dX8_parts_35 (by decide) ?_ ?_
            · skip
              refine sm_iconst (pc := 42) dX8_parts_42 zc_i_0 ?_
              exact hj43.use
            · skip
              exact hj38.use
        · skip
          exact hj24.use
noncomputable def f_X8_partst {d : Nat} : List zV → zH d → zP d → Bool := zfn 9 (b_X8_partst )
theorem m_X8_partst {d : Nat} : zMet (d := d) X_X8_parts yX8_parts 2 (f_X8_partst ) := zmet_mk (X := X_X8_parts) (by decide) rfl rfl (fun P => s_X8_partst P)

noncomputable def bX9_partst_43 {d : Nat} (P : zP d) : zK d := (xpL 9223372036854775808 (xlret P))
set_option maxRecDepth 100000 in
set_option maxHeartbeats 4000000 in
theorem sbX9_partst_43 {d : Nat} [zGh] (P : zP d) : zSim X_X9_parts 3 P 43 (bX9_partst_43 P) := by
  unfold bX9_partst_43
  refine sm_ldc2 (pc := 43) dX9_parts_43 wd_1311 zc_cl_m9223372036854775808 ?_
  exact sm_lreturn (pc := 46) dX9_parts_46 rfl
noncomputable def bX9_partst_103 {d : Nat} (P : zP d) : zK d := (xlret P)
set_option maxRecDepth 100000 in
set_option maxHeartbeats 4000000 in
theorem sbX9_partst_103 {d : Nat} [zGh] (P : zP d) : zSim X_X9_parts 3 P 103 (bX9_partst_103 P) := by
  unfold bX9_partst_103
  exact sm_lreturn (pc := 103) dX9_parts_103 rfl
noncomputable def bX9_partst_68 {d : Nat} (P : zP d) : zK d := (xlst 4 (xlld 4 (xaldV 0 (xgfI 25 12 (xi2lR (xcS 2 0 0 (zstr gX_X9_divisor) (xlst 6 (xild 3 (xpI 2 (xjoin (bX9_partst_103 P) (fun j103 => (xcmpS tgeR rlGe rhS rlS rhLt (xaldV 0 (xgfI 25 12 (xi2lR (xlld 6 (xdvT j103))))) (xlld 4 (xlld 6 (xdvT j103)))))))))))))))
set_option maxRecDepth 100000 in
set_option maxHeartbeats 4000000 in
theorem sbX9_partst_68 {d : Nat} [zGh] (P : zP d) : zSim X_X9_parts 3 P 68 (bX9_partst_68 P) := by
  unfold bX9_partst_68
  refine sm_lstore (pc := 68) (n := 4) dX9_parts_68 ?_
  refine sm_lload (pc := 70) (n := 4) dX9_parts_70 ?_
  refine sm_aloadV_n (pc := 72) (n := 0) dX9_parts_72 rfl ?_
  refine gf_X9_166 (pc := 73) rfl dX9_parts_73 ?_
  refine sm_i2lR (pc := 76) dX9_parts_76 ?_
  refine sm_cS (pc := 77) (n := 2) (mc := 0) (ms := 0) (zMet_str mX_X9_divisor) (cr_X9_335 (X := X_X9_parts) (fr := 3) (frc := 1) (pc := 77) (mc := 0) (ms := 0) rfl (by decide) dX9_parts_77) ?_
  refine sm_lstore (pc := 80) (n := 6) dX9_parts_80 ?_
  refine sm_iload_n (pc := 82) (n := 3) dX9_parts_82 rfl ?_
  refine sm_iconst (pc := 83) dX9_parts_83 zc_i_2 ?_
  refine sm_joinJ (pc := 84) (pc' := 103) (j := 1) (fun G0 hG0 => @sbX9_partst_103 d G0 P) (fun j103 hj103 => ?_)
  refine sm_icmpS_ge (pc := 84) (tgt := 95) dX9_parts_84 (by decide) ?_ ?_
  · skip
    refine sm_aloadV_n (pc := 95) (n := 0) dX9_parts_95 rfl ?_
    refine gf_X9_166 (pc := 96) rfl dX9_parts_96 ?_
    refine sm_i2lR (pc := 99) dX9_parts_99 ?_
    refine sm_lload (pc := 100) (n := 6) dX9_parts_100 ?_
    refine sm_ldivT (pc := 102) dX9_parts_102 ?_
    exact hj103.use
  · skip
    refine sm_lload (pc := 87) (n := 4) dX9_parts_87 ?_
    refine sm_lload (pc := 89) (n := 6) dX9_parts_89 ?_
    refine sm_ldivT (pc := 91) dX9_parts_91 ?_
    refine sm_goto (pc := 92) (tgt := 103) dX9_parts_92 (by decide) ?_
    exact hj103.use
noncomputable def bX9_partst_47 {d : Nat} (P : zP d) : zK d := (xild 3 (xpI 2 (xbinN zremR (xjoin (bX9_partst_68 P) (fun j68 => (xif0S teqR rlEq rhEq rlNe rhNe (xaldV 0 (xild 1 (xild 2 (xcV 25 3 0 0 (zstr f_X9_ordinarySum) j68)))) (xaldV 0 (xild 1 (xild 2 (xcV 25 3 0 0 (zstr f_X9_modularSum) j68))))))))))
set_option maxRecDepth 100000 in
set_option maxHeartbeats 4000000 in
theorem sbX9_partst_47 {d : Nat} [zGh] (P : zP d) : zSim X_X9_parts 3 P 47 (bX9_partst_47 P) := by
  unfold bX9_partst_47
  refine sm_iload_n (pc := 47) (n := 3) dX9_parts_47 rfl ?_
  refine sm_iconst (pc := 48) dX9_parts_48 zc_i_2 ?_
  refine sm_iremR (pc := 49) dX9_parts_49 ?_
  refine sm_joinJ (pc := 50) (pc' := 68) (j := 1) (fun G0 hG0 => @sbX9_partst_68 d G0 P) (fun j68 hj68 => ?_)
  refine sm_ifS_ne (pc := 50) (tgt := 62) dX9_parts_50 (by decide) ?_ ?_
  · skip
    refine sm_aloadV_n (pc := 62) (n := 0) dX9_parts_62 rfl ?_
    refine sm_iload_n (pc := 63) (n := 1) dX9_parts_63 rfl ?_
    refine sm_iload_n (pc := 64) (n := 2) dX9_parts_64 rfl ?_
    refine sm_cV (pc := 65) (ci := 9) (n := 3) (mc := 0) (ms := 0) rfl (zMet_str m_X9_modularSum) (cr_X9_332 (X := X_X9_parts) (fr := 3) (frc := 1) (pc := 65) (mc := 0) (ms := 0) rfl (by decide) dX9_parts_65) ?_
    exact hj68.use
  · skip
    refine sm_aloadV_n (pc := 53) (n := 0) dX9_parts_53 rfl ?_
    refine sm_iload_n (pc := 54) (n := 1) dX9_parts_54 rfl ?_
    refine sm_iload_n (pc := 55) (n := 2) dX9_parts_55 rfl ?_
    refine sm_cV (pc := 56) (ci := 9) (n := 3) (mc := 0) (ms := 0) rfl (zMet_str m_X9_ordinarySum) (cr_X9_328 (X := X_X9_parts) (fr := 3) (frc := 1) (pc := 56) (mc := 0) (ms := 0) rfl (by decide) dX9_parts_56) ?_
    refine sm_goto (pc := 59) (tgt := 68) dX9_parts_59 (by decide) ?_
    exact hj68.use
noncomputable def b_X9_partst {d : Nat} (P : zP d) : zK d := (xild 1 (xcS 1 0 0 (zstr f_X9_isSlota) (xjoin (bX9_partst_43 P) (fun j43 => (xif0S teqR rlEq rhEq rlNe rhNe j43 (xaldV 0 (xild 2 (xcV 25 2 0 0 (zstr f_X9_isParta) (xif0S teqR rlEq rhEq rlNe rhNe j43 (xild 3 (xi2lR (xpL 0 (xpL 3 (xcS 3 0 0 (zstr f_X9_isIna) (xif0S teqR rlEq rhEq rlNe rhNe j43 (xild 3 (xpI 2 (xbinN zremR (xpI 1 (xjoin (bX9_partst_47 P) (fun j47 => (xcmpS teqR rlEq rhEq rlNe rhNe (xaldV 0 (xgfR 25 7 (xild 2 (xalQ 1 (xif0S teqR rlEq rhEq rlNe rhNe j43 j47))))) j47))))))))))))))))))))))
set_option maxRecDepth 100000 in
set_option maxHeartbeats 4000000 in
theorem s_X9_partst {d : Nat} [zGh] (P : zP d) : zSim X_X9_parts 3 P 0 (b_X9_partst P) := by
  unfold b_X9_partst
  refine sm_iload_n (pc := 0) (n := 1) dX9_parts_0 rfl ?_
  refine sm_cS (pc := 1) (n := 1) (mc := 0) (ms := 0) (zMet_str m_X9_isSlota) (cr_X9_319 (X := X_X9_parts) (fr := 3) (frc := 2) (pc := 1) (mc := 0) (ms := 0) rfl (by decide) dX9_parts_1) ?_
  refine sm_joinJ (pc := 4) (pc' := 43) (j := 1) (fun G0 hG0 => @sbX9_partst_43 d G0 P) (fun j43 hj43 => ?_)
  refine sm_ifS_eq (pc := 4) (tgt := 43) dX9_parts_4 (by decide) ?_ ?_
  · skip
    exact hj43.use
  · skip
    refine sm_aloadV_n (pc := 7) (n := 0) dX9_parts_7 rfl ?_
    refine sm_iload_n (pc := 8) (n := 2) dX9_parts_8 rfl ?_
    refine sm_cV (pc := 9) (ci := 9) (n := 2) (mc := 0) (ms := 0) rfl (zMet_str m_X9_isParta) (cr_X9_287 (X := X_X9_parts) (fr := 3) (frc := 2) (pc := 9) (mc := 0) (ms := 0) rfl (by decide) dX9_parts_9) ?_
    refine sm_ifS_eq (pc := 12) (tgt := 43) dX9_parts_12 (by decide) ?_ ?_
    · skip
      exact hj43.use
    · skip
      refine sm_iload_n (pc := 15) (n := 3) dX9_parts_15 rfl ?_
      refine sm_i2lR (pc := 16) dX9_parts_16 ?_
      refine sm_lconst (pc := 17) dX9_parts_17 zc_l_0 ?_
      refine sm_ldc2 (pc := 18) dX9_parts_18 wd_1316 zc_cl_3 ?_
      refine sm_cS (pc := 21) (n := 3) (mc := 0) (ms := 0) (zMet_str m_X9_isIna) (cr_X9_283 (X := X_X9_parts) (fr := 3) (frc := 1) (pc := 21) (mc := 0) (ms := 0) rfl (by decide) dX9_parts_21) ?_
      refine sm_ifS_eq (pc := 24) (tgt := 43) dX9_parts_24 (by decide) ?_ ?_
      · skip
        exact hj43.use
      · skip
        refine sm_iload_n (pc := 27) (n := 3) dX9_parts_27 rfl ?_
        refine sm_iconst (pc := 28) dX9_parts_28 zc_i_2 ?_
        refine sm_iremR (pc := 29) dX9_parts_29 ?_
        refine sm_iconst (pc := 30) dX9_parts_30 zc_i_1 ?_
        refine sm_joinJ (pc := 31) (pc' := 47) (j := 1) (fun G0 hG0 => @sbX9_partst_47 d G0 P) (fun j47 hj47 => ?_)
        refine sm_icmpS_ne (pc := 31) (tgt := 47) dX9_parts_31 (by decide) ?_ ?_
        · skip
          exact hj47.use
        · skip
          refine sm_aloadV_n (pc := 34) (n := 0) dX9_parts_34 rfl ?_
          refine gf_X9_22 (pc := 35) rfl dX9_parts_35 ?_
          refine sm_iload_n (pc := 38) (n := 2) dX9_parts_38 rfl ?_
          refine sm_baloadQ (pc := 39) dX9_parts_39 ?_
          refine sm_ifS_ne (pc := 40) (tgt := 47) dX9_parts_40 (by decide) ?_ ?_
          · skip
            exact hj47.use
          · skip
            exact hj43.use
noncomputable def f_X9_partst {d : Nat} : List zV → zH d → zP d → Bool := zfn 8 (b_X9_partst )
theorem m_X9_partst {d : Nat} : zMet (d := d) X_X9_parts yX9_parts 3 (f_X9_partst ) := zmet_mk (X := X_X9_parts) (by decide) rfl rfl (fun P => s_X9_partst P)

noncomputable def bX9_lookt_187 {d : Nat} (P : zP d) : zK d := (xpI 4294967295 (xiret P))
set_option maxRecDepth 100000 in
set_option maxHeartbeats 4000000 in
theorem sbX9_lookt_187 {d : Nat} [zGh] (P : zP d) : zSim X_X9_look 2 P 187 (bX9_lookt_187 P) := by
  unfold bX9_lookt_187
  refine sm_iconst (pc := 187) dX9_look_187 zc_i_m1 ?_
  exact sm_ireturn (pc := 188) dX9_look_188 rfl
noncomputable def bX9_lookt_148 {d : Nat} (P : zP d) : zK d := (xaldV 0 (xgfI 25 0 (xiret P)))
set_option maxRecDepth 100000 in
set_option maxHeartbeats 4000000 in
theorem sbX9_lookt_148 {d : Nat} [zGh] (P : zP d) : zSim X_X9_look 2 P 148 (bX9_lookt_148 P) := by
  unfold bX9_lookt_148
  refine sm_aloadV_n (pc := 148) (n := 0) dX9_look_148 rfl ?_
  refine gf_X9_169 (pc := 149) rfl dX9_look_149 ?_
  exact sm_ireturn (pc := 152) dX9_look_152 rfl
noncomputable def bX9_lookt_153 {d : Nat} (P : zP d) : zK d := (xaldV 0 (xgfI 25 1 (xiret P)))
set_option maxRecDepth 100000 in
set_option maxHeartbeats 4000000 in
theorem sbX9_lookt_153 {d : Nat} [zGh] (P : zP d) : zSim X_X9_look 2 P 153 (bX9_lookt_153 P) := by
  unfold bX9_lookt_153
  refine sm_aloadV_n (pc := 153) (n := 0) dX9_look_153 rfl ?_
  refine gf_X9_184 (pc := 154) rfl dX9_look_154 ?_
  exact sm_ireturn (pc := 157) dX9_look_157 rfl
noncomputable def bX9_lookt_158 {d : Nat} (P : zP d) : zK d := (xaldV 0 (xgfI 25 2 (xiret P)))
set_option maxRecDepth 100000 in
set_option maxHeartbeats 4000000 in
theorem sbX9_lookt_158 {d : Nat} [zGh] (P : zP d) : zSim X_X9_look 2 P 158 (bX9_lookt_158 P) := by
  unfold bX9_lookt_158
  refine sm_aloadV_n (pc := 158) (n := 0) dX9_look_158 rfl ?_
  refine gf_X9_153 (pc := 159) rfl dX9_look_159 ?_
  exact sm_ireturn (pc := 162) dX9_look_162 rfl
noncomputable def bX9_lookt_163 {d : Nat} (P : zP d) : zK d := (xaldV 0 (xgfI 25 11 (xiret P)))
set_option maxRecDepth 100000 in
set_option maxHeartbeats 4000000 in
theorem sbX9_lookt_163 {d : Nat} [zGh] (P : zP d) : zSim X_X9_look 2 P 163 (bX9_lookt_163 P) := by
  unfold bX9_lookt_163
  refine sm_aloadV_n (pc := 163) (n := 0) dX9_look_163 rfl ?_
  refine gf_X9_172 (pc := 164) rfl dX9_look_164 ?_
  exact sm_ireturn (pc := 167) dX9_look_167 rfl
noncomputable def bX9_lookt_168 {d : Nat} (P : zP d) : zK d := (xaldV 0 (xgfI 25 18 (xiret P)))
set_option maxRecDepth 100000 in
set_option maxHeartbeats 4000000 in
theorem sbX9_lookt_168 {d : Nat} [zGh] (P : zP d) : zSim X_X9_look 2 P 168 (bX9_lookt_168 P) := by
  unfold bX9_lookt_168
  refine sm_aloadV_n (pc := 168) (n := 0) dX9_look_168 rfl ?_
  refine gf_X9_199 (pc := 169) rfl dX9_look_169 ?_
  exact sm_ireturn (pc := 172) dX9_look_172 rfl
noncomputable def bX9_lookt_173 {d : Nat} (P : zP d) : zK d := (xaldV 0 (xgfI 25 12 (xiret P)))
set_option maxRecDepth 100000 in
set_option maxHeartbeats 4000000 in
theorem sbX9_lookt_173 {d : Nat} [zGh] (P : zP d) : zSim X_X9_look 2 P 173 (bX9_lookt_173 P) := by
  unfold bX9_lookt_173
  refine sm_aloadV_n (pc := 173) (n := 0) dX9_look_173 rfl ?_
  refine gf_X9_166 (pc := 174) rfl dX9_look_174 ?_
  exact sm_ireturn (pc := 177) dX9_look_177 rfl
noncomputable def bX9_lookt_178 {d : Nat} (P : zP d) : zK d := (xaldV 0 (xgfI 25 46 (xiret P)))
set_option maxRecDepth 100000 in
set_option maxHeartbeats 4000000 in
theorem sbX9_lookt_178 {d : Nat} [zGh] (P : zP d) : zSim X_X9_look 2 P 178 (bX9_lookt_178 P) := by
  unfold bX9_lookt_178
  refine sm_aloadV_n (pc := 178) (n := 0) dX9_look_178 rfl ?_
  refine gf_X9_347 (pc := 179) rfl dX9_look_179 ?_
  exact sm_ireturn (pc := 182) dX9_look_182 rfl
noncomputable def bX9_lookt_183 {d : Nat} (P : zP d) : zK d := (xild 2 (xiret P))
set_option maxRecDepth 100000 in
set_option maxHeartbeats 4000000 in
theorem sbX9_lookt_183 {d : Nat} [zGh] (P : zP d) : zSim X_X9_look 2 P 183 (bX9_lookt_183 P) := by
  unfold bX9_lookt_183
  refine sm_iload_n (pc := 183) (n := 2) dX9_look_183 rfl ?_
  exact sm_ireturn (pc := 184) dX9_look_184 rfl
noncomputable def bX9_lookt_185 {d : Nat} (P : zP d) : zK d := (xild 3 (xiret P))
set_option maxRecDepth 100000 in
set_option maxHeartbeats 4000000 in
theorem sbX9_lookt_185 {d : Nat} [zGh] (P : zP d) : zSim X_X9_look 2 P 185 (bX9_lookt_185 P) := by
  unfold bX9_lookt_185
  refine sm_iload_n (pc := 185) (n := 3) dX9_look_185 rfl ?_
  exact sm_ireturn (pc := 186) dX9_look_186 rfl
noncomputable def bX9_lookt_87 {d : Nat} (P : zP d) (r57 : zK d) : zK d := (xcS 1 0 0 (zstr f_X9_one) (xbin zaddR (xist 3 (xincR 4 1 r57))))
set_option maxRecDepth 100000 in
set_option maxHeartbeats 4000000 in
theorem sbX9_lookt_87 {d : Nat} [zGh] (P : zP d) (r57 : zK d) (hr57 : zSimJ 1 X_X9_look 2 P 57 r57) : zSim X_X9_look 2 P 87 (bX9_lookt_87 P r57) := by
  unfold bX9_lookt_87
  refine sm_cS (pc := 87) (n := 1) (mc := 0) (ms := 0) (zMet_str m_X9_one) (cr_X9_187 (X := X_X9_look) (fr := 2) (frc := 1) (pc := 87) (mc := 0) (ms := 0) rfl (by decide) dX9_look_87) ?_
  refine sm_iaddR (pc := 90) dX9_look_90 ?_
  refine sm_istore_n (pc := 91) (n := 3) dX9_look_91 rfl ?_
  refine sm_iincR (pc := 92) (n := 4) dX9_look_92 zc_i_1 ?_
  refine sm_goto (pc := 95) (tgt := 57) dX9_look_95 (by decide) ?_
  exact hr57.use
noncomputable def lX9_lookt_57 {d : Nat} (P : zP d) (r57 : zK d) : zK d := (xild 4 (xaldV 0 (xgfI 25 18 (xcmpS tgeR rlGe rhS rlS rhLt (xild 1 (xtswR 8 [(bX9_lookt_148 P), (bX9_lookt_153 P), (bX9_lookt_158 P), (bX9_lookt_163 P), (bX9_lookt_168 P), (bX9_lookt_173 P), (bX9_lookt_178 P), (bX9_lookt_183 P), (bX9_lookt_185 P)] (bX9_lookt_187 P))) (xild 3 (xaldV 0 (xgfR 25 15 (xaldV 0 (xgfR 25 19 (xild 4 (xalQ 0 (xalQ 0 (xjn wkE (zsp [zI 4294967298] 1) (bX9_lookt_87 P r57) (fun j87 => (xif0S teqR rlEq rhEq rlNe rhNe (xpI 1 j87) (xpI 0 j87))))))))))))))))
set_option maxRecDepth 100000 in
set_option maxHeartbeats 4000000 in
theorem slX9_lookt_57 {d : Nat} [zGh] (P : zP d) (r57 : zK d) (hr57 : zSimJ 1 X_X9_look 2 P 57 r57) : zSim X_X9_look 2 P 57 (lX9_lookt_57 P r57) := by
  unfold lX9_lookt_57
  refine sm_iload (pc := 57) (n := 4) dX9_look_57 ?_
  refine sm_aloadV_n (pc := 59) (n := 0) dX9_look_59 rfl ?_
  refine gf_X9_199 (pc := 60) rfl dX9_look_60 ?_
  refine sm_icmpS_ge (pc := 63) (tgt := 98) dX9_look_63 (by decide) ?_ ?_
  · skip
    refine sm_iload_n (pc := 98) (n := 1) dX9_look_98 rfl ?_
    exact sm_tswR (pc := 99) (n := 8) (tdf := 187) [148, 153, 158, 163, 168, 173, 178, 183, 185] rfl (by decide) dX9_look_99 rfl (by decide +kernel) (by decide) (sbX9_lookt_187 P) ⟨sbX9_lookt_148 P, sbX9_lookt_153 P, sbX9_lookt_158 P, sbX9_lookt_163 P, sbX9_lookt_168 P, sbX9_lookt_173 P, sbX9_lookt_178 P, sbX9_lookt_183 P, sbX9_lookt_185 P, trivial⟩
  · skip
    refine sm_iload_n (pc := 66) (n := 3) dX9_look_66 rfl ?_
    refine sm_aloadV_n (pc := 67) (n := 0) dX9_look_67 rfl ?_
    refine gf_X9_41 (pc := 68) rfl dX9_look_68 ?_
    refine sm_aloadV_n (pc := 71) (n := 0) dX9_look_71 rfl ?_
    refine gf_X9_50 (pc := 72) rfl dX9_look_72 ?_
    refine sm_iload (pc := 75) (n := 4) dX9_look_75 ?_
    refine sm_ialoadQ (pc := 77) dX9_look_77 ?_
    refine sm_ialoadQ (pc := 78) dX9_look_78 ?_
    refine sm_jn (pc := 79) (pc' := 87) (j := 1) wkE_ok (zsp_ok _ _) (fun G0 hG0 => @sbX9_lookt_87 d G0 P r57 (hr57.mv hG0 (by decide))) (fun j87 hj87 => ?_)
    refine sm_ifS_ne (pc := 79) (tgt := 86) dX9_look_79 (by decide) ?_ ?_
    · skip
      refine sm_iconst (pc := 86) dX9_look_86 zc_i_0 ?_
      exact hj87.use
    · skip
      refine sm_iconst (pc := 82) dX9_look_82 zc_i_1 ?_
      refine sm_goto (pc := 83) (tgt := 87) dX9_look_83 (by decide) ?_
      exact hj87.use
noncomputable def bX9_lookt_48 {d : Nat} (P : zP d) (r7 : zK d) : zK d := (xincR 4 1 r7)
set_option maxRecDepth 100000 in
set_option maxHeartbeats 4000000 in
theorem sbX9_lookt_48 {d : Nat} [zGh] (P : zP d) (r7 : zK d) (hr7 : zSimJ 1 X_X9_look 2 P 7 r7) : zSim X_X9_look 2 P 48 (bX9_lookt_48 P r7) := by
  unfold bX9_lookt_48
  refine sm_iincR (pc := 48) (n := 4) dX9_look_48 zc_i_1 ?_
  refine sm_goto (pc := 51) (tgt := 7) dX9_look_51 (by decide) ?_
  exact hr7.use
noncomputable def lX9_lookt_7 {d : Nat} (P : zP d) (r7 : zK d) : zK d := (xild 4 (xpI 66 (xcmpS tgeR rlGe rhS rlS rhLt (xpI 0 (xist 4 (xloop (fun r57 => (lX9_lookt_57 P r57)) 100000))) (xild 4 (xpI 11 (xbinN zremR (xaldV 0 (xgfI 25 2 (xjn (wkL 2 4294967296 wkE) (zsp [] 2) (bX9_lookt_48 P r7) (fun j48 => (xcmpS tgeR rlGe rhS rlS rhLt j48 (xaldV 0 (xgfR 25 43 (xild 4 (xlal (xpL 0 (xlcmpR (xif0S teqR rlEq rhEq rlNe rhNe j48 (xild 2 (xpI 1 (xild 4 (xpI 11 (xbinN zdivR (xbin zshl (xbin zor (xist 2 j48))))))))))))))))))))))))))
set_option maxRecDepth 100000 in
set_option maxHeartbeats 4000000 in
theorem slX9_lookt_7 {d : Nat} [zGh] (P : zP d) (r7 : zK d) (hr7 : zSimJ 1 X_X9_look 2 P 7 r7) : zSim X_X9_look 2 P 7 (lX9_lookt_7 P r7) := by
  unfold lX9_lookt_7
  refine sm_iload (pc := 7) (n := 4) dX9_look_7 ?_
  refine sm_bipush (pc := 9) dX9_look_9 zc_b_66 ?_
  refine sm_icmpS_ge (pc := 11) (tgt := 54) dX9_look_11 (by decide) ?_ ?_
  · skip
    refine sm_iconst (pc := 54) dX9_look_54 zc_i_0 ?_
    refine sm_istore (pc := 55) (n := 4) dX9_look_55 ?_
    exact (sm_loopJ (j := 1) (fun G1 hG1 r57 hr57 => @slX9_lookt_57 d G1 P r57 hr57) _).use
  · skip
    refine sm_iload (pc := 14) (n := 4) dX9_look_14 ?_
    refine sm_bipush (pc := 16) dX9_look_16 zc_b_11 ?_
    refine sm_iremR (pc := 18) dX9_look_18 ?_
    refine sm_aloadV_n (pc := 19) (n := 0) dX9_look_19 rfl ?_
    refine gf_X9_153 (pc := 20) rfl dX9_look_20 ?_
    refine sm_jn (pc := 23) (pc' := 48) (j := 1) (wkL_ok wkE_ok) (zsp_ok _ _) (fun G0 hG0 => @sbX9_lookt_48 d G0 P r7 (hr7.mv hG0 (by decide))) (fun j48 hj48 => ?_)
    refine sm_icmpS_ge (pc := 23) (tgt := 48) dX9_look_23 (by decide) ?_ ?_
    · skip
      exact hj48.use
    · skip
      refine sm_aloadV_n (pc := 26) (n := 0) dX9_look_26 rfl ?_
      refine gf_X9_115 (pc := 27) rfl dX9_look_27 ?_
      refine sm_iload (pc := 30) (n := 4) dX9_look_30 ?_
      refine sm_laload (pc := 32) dX9_look_32 ?_
      refine sm_lconst (pc := 33) dX9_look_33 zc_l_0 ?_
      refine sm_lcmpR (pc := 34) dX9_look_34 ?_
      refine sm_ifS_eq (pc := 35) (tgt := 48) dX9_look_35 (by decide) ?_ ?_
      · skip
        exact hj48.use
      · skip
        refine sm_iload_n (pc := 38) (n := 2) dX9_look_38 rfl ?_
        refine sm_iconst (pc := 39) dX9_look_39 zc_i_1 ?_
        refine sm_iload (pc := 40) (n := 4) dX9_look_40 ?_
        refine sm_bipush (pc := 42) dX9_look_42 zc_b_11 ?_
        refine sm_idivR (pc := 44) dX9_look_44 ?_
        refine sm_ishl (pc := 45) dX9_look_45 ?_
        refine sm_ior (pc := 46) dX9_look_46 ?_
        refine sm_istore_n (pc := 47) (n := 2) dX9_look_47 rfl ?_
        exact hj48.use
noncomputable def b_X9_lookt {d : Nat} (P : zP d) : zK d := (xpI 0 (xist 2 (xpI 0 (xist 3 (xpI 0 (xist 4 (xloop (fun r7 => (lX9_lookt_7 P r7)) 100000)))))))
set_option maxRecDepth 100000 in
set_option maxHeartbeats 4000000 in
theorem s_X9_lookt {d : Nat} [zGh] (P : zP d) : zSim X_X9_look 2 P 0 (b_X9_lookt P) := by
  unfold b_X9_lookt
  refine sm_iconst (pc := 0) dX9_look_0 zc_i_0 ?_
  refine sm_istore_n (pc := 1) (n := 2) dX9_look_1 rfl ?_
  refine sm_iconst (pc := 2) dX9_look_2 zc_i_0 ?_
  refine sm_istore_n (pc := 3) (n := 3) dX9_look_3 rfl ?_
  refine sm_iconst (pc := 4) dX9_look_4 zc_i_0 ?_
  refine sm_istore (pc := 5) (n := 4) dX9_look_5 ?_
  exact (sm_loopJ (j := 1) (fun G1 hG1 r7 hr7 => @slX9_lookt_7 d G1 P r7 hr7) _).use
noncomputable def f_X9_lookt {d : Nat} : List zV → zH d → zP d → Bool := zfn 5 (b_X9_lookt )
theorem m_X9_lookt {d : Nat} : zMet (d := d) X_X9_look yX9_look 2 (f_X9_lookt ) := zmet_mk (X := X_X9_look) (by decide) rfl rfl (fun P => s_X9_lookt P)

noncomputable def bX9_kindt_19 {d : Nat} (P : zP d) : zK d := (xpI 4294967295 (xiret P))
set_option maxRecDepth 100000 in
set_option maxHeartbeats 4000000 in
theorem sbX9_kindt_19 {d : Nat} [zGh] (P : zP d) : zSim X_X9_kind 3 P 19 (bX9_kindt_19 P) := by
  unfold bX9_kindt_19
  refine sm_iconst (pc := 19) dX9_kind_19 zc_i_m1 ?_
  exact sm_ireturn (pc := 20) dX9_kind_20 rfl
noncomputable def bX9_kindt_105 {d : Nat} (P : zP d) (r60 : zK d) : zK d := (xist 3 (xincR 4 1 r60))
set_option maxRecDepth 100000 in
set_option maxHeartbeats 4000000 in
theorem sbX9_kindt_105 {d : Nat} [zGh] (P : zP d) (r60 : zK d) (hr60 : zSimJ 1 X_X9_kind 3 P 60 r60) : zSim X_X9_kind 3 P 105 (bX9_kindt_105 P r60) := by
  unfold bX9_kindt_105
  refine sm_istore_n (pc := 105) (n := 3) dX9_kind_105 rfl ?_
  refine sm_iincR (pc := 106) (n := 4) dX9_kind_106 zc_i_1 ?_
  refine sm_goto (pc := 109) (tgt := 60) dX9_kind_109 (by decide) ?_
  exact hr60.use
noncomputable def bX9_kindt_104 {d : Nat} (P : zP d) (j105 : zK d) : zK d := (xpI 0 j105)
set_option maxRecDepth 100000 in
set_option maxHeartbeats 4000000 in
theorem sbX9_kindt_104 {d : Nat} [zGh] (P : zP d) (j105 : zK d) (hj105 : zSimJ 1 X_X9_kind 3 P 105 j105) : zSim X_X9_kind 3 P 104 (bX9_kindt_104 P j105) := by
  unfold bX9_kindt_104
  refine sm_iconst (pc := 104) dX9_kind_104 zc_i_0 ?_
  exact hj105.use
noncomputable def bX9_kindt_100 {d : Nat} (P : zP d) (j105 : zK d) : zK d := (xpI 1 j105)
set_option maxRecDepth 100000 in
set_option maxHeartbeats 4000000 in
theorem sbX9_kindt_100 {d : Nat} [zGh] (P : zP d) (j105 : zK d) (hj105 : zSimJ 1 X_X9_kind 3 P 105 j105) : zSim X_X9_kind 3 P 100 (bX9_kindt_100 P j105) := by
  unfold bX9_kindt_100
  refine sm_iconst (pc := 100) dX9_kind_100 zc_i_1 ?_
  refine sm_goto (pc := 101) (tgt := 105) dX9_kind_101 (by decide) ?_
  exact hj105.use
noncomputable def lX9_kindt_60 {d : Nat} (P : zP d) (r60 : zK d) : zK d := (xild 4 (xaldV 0 (xgfI 25 2 (xcmpS tgeR rlGe rhS rlS rhLt (xild 3 (xcS 1 0 0 (zstr f_X9_one) (xiret P))) (xild 3 (xjn wkE (zsp [zI 4294967298] 1) (bX9_kindt_105 P r60) (fun j105 => (xjoin (bX9_kindt_104 P j105) (fun j104 => (xif0S teqR rlEq rhEq rlNe rhNe j104 (xaldV 0 (xgfR 25 8 (xild 4 (xalQ 1 (xjoin (bX9_kindt_100 P j105) (fun j100 => (xif0S teqR rlEq rhEq rlNe rhNe (xaldV 0 (xgfR 25 43 (xpI 11 (xild 1 (xbin zmulR (xild 4 (xbin zaddR (xlal (xpL 0 (xlcmpR (xif0S teqR rlEq rhEq rlNe rhNe j100 j104))))))))))) j100)))))))))))))))))
set_option maxRecDepth 100000 in
set_option maxHeartbeats 4000000 in
theorem slX9_kindt_60 {d : Nat} [zGh] (P : zP d) (r60 : zK d) (hr60 : zSimJ 1 X_X9_kind 3 P 60 r60) : zSim X_X9_kind 3 P 60 (lX9_kindt_60 P r60) := by
  unfold lX9_kindt_60
  refine sm_iload (pc := 60) (n := 4) dX9_kind_60 ?_
  refine sm_aloadV_n (pc := 62) (n := 0) dX9_kind_62 rfl ?_
  refine gf_X9_153 (pc := 63) rfl dX9_kind_63 ?_
  refine sm_icmpS_ge (pc := 66) (tgt := 112) dX9_kind_66 (by decide) ?_ ?_
  · skip
    refine sm_iload_n (pc := 112) (n := 3) dX9_kind_112 rfl ?_
    refine sm_cS (pc := 113) (n := 1) (mc := 0) (ms := 0) (zMet_str m_X9_one) (cr_X9_187 (X := X_X9_kind) (fr := 3) (frc := 1) (pc := 113) (mc := 0) (ms := 0) rfl (by decide) dX9_kind_113) ?_
    exact sm_ireturn (pc := 116) dX9_kind_116 rfl
  · skip
    refine sm_iload_n (pc := 69) (n := 3) dX9_kind_69 rfl ?_
    refine sm_jn (pc := 70) (pc' := 105) (j := 1) wkE_ok (zsp_ok _ _) (fun G0 hG0 => @sbX9_kindt_105 d G0 P r60 (hr60.mv hG0 (by decide))) (fun j105 hj105 => ?_)
    refine sm_joinJ (pc := 70) (pc' := 104) (j := 1) (fun G0 hG0 => @sbX9_kindt_104 d G0 P j105 (hj105.mv hG0 (by decide))) (fun j104 hj104 => ?_)
    refine sm_ifS_eq (pc := 70) (tgt := 104) dX9_kind_70 (by decide) ?_ ?_
    · skip
      exact hj104.use
    · skip
      refine sm_aloadV_n (pc := 73) (n := 0) dX9_kind_73 rfl ?_
      refine gf_X9_26 (pc := 74) rfl dX9_kind_74 ?_
      refine sm_iload (pc := 77) (n := 4) dX9_kind_77 ?_
      refine sm_baloadQ (pc := 79) dX9_kind_79 ?_
      refine sm_joinJ (pc := 80) (pc' := 100) (j := 1) (fun G0 hG0 => @sbX9_kindt_100 d G0 P j105 (hj105.mv hG0 (by decide))) (fun j100 hj100 => ?_)
      refine sm_ifS_ne (pc := 80) (tgt := 100) dX9_kind_80 (by decide) ?_ ?_
      · skip
        exact hj100.use
      · skip
        refine sm_aloadV_n (pc := 83) (n := 0) dX9_kind_83 rfl ?_
        refine gf_X9_115 (pc := 84) rfl dX9_kind_84 ?_
        refine sm_bipush (pc := 87) dX9_kind_87 zc_b_11 ?_
        refine sm_iload_n (pc := 89) (n := 1) dX9_kind_89 rfl ?_
        refine sm_imulR (pc := 90) dX9_kind_90 ?_
        refine sm_iload (pc := 91) (n := 4) dX9_kind_91 ?_
        refine sm_iaddR (pc := 93) dX9_kind_93 ?_
        refine sm_laload (pc := 94) dX9_kind_94 ?_
        refine sm_lconst (pc := 95) dX9_kind_95 zc_l_0 ?_
        refine sm_lcmpR (pc := 96) dX9_kind_96 ?_
        refine sm_ifS_ne (pc := 97) (tgt := 104) dX9_kind_97 (by decide) ?_ ?_
        · skip
          exact hj104.use
        · skip
          exact hj100.use
noncomputable def bX9_kindt_48 {d : Nat} (P : zP d) : zK d := (xcV 25 4 0 0 (zstr f_X9_areWhole) (xcS 1 0 0 (zstr f_X9_one) (xiret P)))
set_option maxRecDepth 100000 in
set_option maxHeartbeats 4000000 in
theorem sbX9_kindt_48 {d : Nat} [zGh] (P : zP d) : zSim X_X9_kind 3 P 48 (bX9_kindt_48 P) := by
  unfold bX9_kindt_48
  refine sm_cV (pc := 48) (ci := 9) (n := 4) (mc := 0) (ms := 0) rfl (zMet_str m_X9_areWhole) (cr_X9_343 (X := X_X9_kind) (fr := 3) (frc := 2) (pc := 48) (mc := 0) (ms := 0) rfl (by decide) dX9_kind_48) ?_
  refine sm_cS (pc := 51) (n := 1) (mc := 0) (ms := 0) (zMet_str m_X9_one) (cr_X9_187 (X := X_X9_kind) (fr := 3) (frc := 1) (pc := 51) (mc := 0) (ms := 0) rfl (by decide) dX9_kind_51) ?_
  exact sm_ireturn (pc := 54) dX9_kind_54 rfl
noncomputable def bX9_kindt_37 {d : Nat} (P : zP d) : zK d := (xild 2 (xpI 2 (xbinN zremR (xjoin (bX9_kindt_48 P) (fun j48 => (xif0S teqR rlEq rhEq rlNe rhNe (xpI 1 j48) (xpI 0 j48)))))))
set_option maxRecDepth 100000 in
set_option maxHeartbeats 4000000 in
theorem sbX9_kindt_37 {d : Nat} [zGh] (P : zP d) : zSim X_X9_kind 3 P 37 (bX9_kindt_37 P) := by
  unfold bX9_kindt_37
  refine sm_iload_n (pc := 37) (n := 2) dX9_kind_37 rfl ?_
  refine sm_iconst (pc := 38) dX9_kind_38 zc_i_2 ?_
  refine sm_iremR (pc := 39) dX9_kind_39 ?_
  refine sm_joinJ (pc := 40) (pc' := 48) (j := 1) (fun G0 hG0 => @sbX9_kindt_48 d G0 P) (fun j48 hj48 => ?_)
  refine sm_ifS_ne (pc := 40) (tgt := 47) dX9_kind_40 (by decide) ?_ ?_
  · skip
    refine sm_iconst (pc := 47) dX9_kind_47 zc_i_0 ?_
    exact hj48.use
  · skip
    refine sm_iconst (pc := 43) dX9_kind_43 zc_i_1 ?_
    refine sm_goto (pc := 44) (tgt := 48) dX9_kind_44 (by decide) ?_
    exact hj48.use
noncomputable def b_X9_kindt {d : Nat} (P : zP d) : zK d := (xild 1 (xcS 1 0 0 (zstr f_X9_isSlota) (xjoin (bX9_kindt_19 P) (fun j19 => (xif0S teqR rlEq rhEq rlNe rhNe j19 (xild 2 (xi2lR (xpL 0 (xpL 4 (xcS 3 0 0 (zstr f_X9_isIna) (xif0S teqR rlEq rhEq rlNe rhNe j19 (xild 2 (xif0S tleR rlS rhLe rlGt rhS (xpI 1 (xist 3 (xpI 0 (xist 4 (xloop (fun r60 => (lX9_kindt_60 P r60)) 100000))))) (xaldV 0 (xild 1 (xild 2 (xpI 2 (xjoin (bX9_kindt_37 P) (fun j37 => (xcmpS tleR rlS rhLe rlGt rhS (xpI 0 j37) (xpI 1 j37)))))))))))))))))))))
set_option maxRecDepth 100000 in
set_option maxHeartbeats 4000000 in
theorem s_X9_kindt {d : Nat} [zGh] (P : zP d) : zSim X_X9_kind 3 P 0 (b_X9_kindt P) := by
  unfold b_X9_kindt
  refine sm_iload_n (pc := 0) (n := 1) dX9_kind_0 rfl ?_
  refine sm_cS (pc := 1) (n := 1) (mc := 0) (ms := 0) (zMet_str m_X9_isSlota) (cr_X9_319 (X := X_X9_kind) (fr := 3) (frc := 2) (pc := 1) (mc := 0) (ms := 0) rfl (by decide) dX9_kind_1) ?_
  refine sm_joinJ (pc := 4) (pc' := 19) (j := 1) (fun G0 hG0 => @sbX9_kindt_19 d G0 P) (fun j19 hj19 => ?_)
  refine sm_ifS_eq (pc := 4) (tgt := 19) dX9_kind_4 (by decide) ?_ ?_
  · skip
    exact hj19.use
  · skip
    refine sm_iload_n (pc := 7) (n := 2) dX9_kind_7 rfl ?_
    refine sm_i2lR (pc := 8) dX9_kind_8 ?_
    refine sm_lconst (pc := 9) dX9_kind_9 zc_l_0 ?_
    refine sm_ldc2 (pc := 10) dX9_kind_10 wd_1337 zc_cl_4 ?_
    refine sm_cS (pc := 13) (n := 3) (mc := 0) (ms := 0) (zMet_str m_X9_isIna) (cr_X9_283 (X := X_X9_kind) (fr := 3) (frc := 1) (pc := 13) (mc := 0) (ms := 0) rfl (by decide) dX9_kind_13) ?_
    refine sm_ifS_ne (pc := 16) (tgt := 21) dX9_kind_16 (by decide) ?_ ?_
    · skip
      refine sm_iload_n (pc := 21) (n := 2) dX9_kind_21 rfl ?_
      refine sm_ifS_le (pc := 22) (tgt := 55) dX9_kind_22 (by decide) ?_ ?_
      · skip
        refine sm_iconst (pc := 55) dX9_kind_55 zc_i_1 ?_
        refine sm_istore_n (pc := 56) (n := 3) dX9_kind_56 rfl ?_
        refine sm_iconst (pc := 57) dX9_kind_57 zc_i_0 ?_
        refine sm_istore (pc := 58) (n := 4) dX9_kind_58 ?_
        exact (sm_loopJ (j := 1) (fun G1 hG1 r60 hr60 => @slX9_kindt_60 d G1 P r60 hr60) _).use
      · skip
        refine sm_aloadV_n (pc := 25) (n := 0) dX9_kind_25 rfl ?_
        refine sm_iload_n (pc := 26) (n := 1) dX9_kind_26 rfl ?_
        refine sm_iload_n (pc := 27) (n := 2) dX9_kind_27 rfl ?_
        refine sm_iconst (pc := 28) dX9_kind_28 zc_i_2 ?_
        refine sm_joinJ (pc := 29) (pc' := 37) (j := 1) (fun G0 hG0 => @sbX9_kindt_37 d G0 P) (fun j37 hj37 => ?_)
        refine sm_icmpS_le (pc := 29) (tgt := 36) dX9_kind_29 (by decide) ?_ ?_
        · skip
          refine sm_iconst (pc := 36) dX9_kind_36 zc_i_0 ?_
          exact hj37.use
        · skip
          refine sm_iconst (pc := 32) dX9_kind_32 zc_i_1 ?_
          refine sm_goto (pc := 33) (tgt := 37) dX9_kind_33 (by decide) ?_
          exact hj37.use
    · skip
      exact hj19.use
noncomputable def f_X9_kindt {d : Nat} : List zV → zH d → zP d → Bool := zfn 5 (b_X9_kindt )
theorem m_X9_kindt {d : Nat} : zMet (d := d) X_X9_kind yX9_kind 3 (f_X9_kindt ) := zmet_mk (X := X_X9_kind) (by decide) rfl rfl (fun P => s_X9_kindt P)

noncomputable def bX9_determinantt_301 {d : Nat} (P : zP d) : zK d := (xlret P)
set_option maxRecDepth 100000 in
set_option maxHeartbeats 4000000 in
theorem sbX9_determinantt_301 {d : Nat} [zGh] (P : zP d) : zSim X_X9_determinant 1 P 301 (bX9_determinantt_301 P) := by
  unfold bX9_determinantt_301
  exact sm_lreturn (pc := 301) dX9_determinant_301 rfl
noncomputable def cX9_determinantt_242 {d : Nat} (P : zP d) (r166 : zK d) : zK d := (xincR 8 1 r166)
set_option maxRecDepth 100000 in
set_option maxHeartbeats 4000000 in
theorem scX9_determinantt_242 {d : Nat} [zGh] (P : zP d) (r166 : zK d) (hr166 : zSimJ 1 X_X9_determinant 1 P 166 r166) : zSim X_X9_determinant 1 P 242 (cX9_determinantt_242 P r166) := by
  unfold cX9_determinantt_242
  refine sm_iincR (pc := 242) (n := 8) dX9_determinant_242 zc_i_1 ?_
  refine sm_goto (pc := 245) (tgt := 166) dX9_determinant_245 (by decide) ?_
  exact hr166.use
noncomputable def cX9_determinantt_208 {d : Nat} (P : zP d) (r166 : zK d) : zK d := (xbin zaddR (xlalN (xbinj zmulj (xaldV 0 (xgfR 25 41 (xpI 11 (xild 7 (xbin zmulR (xild 5 (xbin zaddR (xlalN (xaldV 0 (xgfR 25 41 (xpI 11 (xild 5 (xbin zmulR (xild 8 (xbin zaddR (xlalN (xbinj zmulj (xbinj zsubj (xlld 2 (xdvT (xlasN (cX9_determinantt_242 P r166)))))))))))))))))))))))))
set_option maxRecDepth 100000 in
set_option maxHeartbeats 4000000 in
theorem scX9_determinantt_208 {d : Nat} [zGh] (P : zP d) (r166 : zK d) (hr166 : zSimJ 1 X_X9_determinant 1 P 166 r166) : zSim X_X9_determinant 1 P 208 (cX9_determinantt_208 P r166) := by
  unfold cX9_determinantt_208
  refine sm_iaddR (pc := 208) dX9_determinant_208 ?_
  refine sm_laloadN (pc := 209) dX9_determinant_209 ?_
  refine sm_lmul (pc := 210) dX9_determinant_210 ?_
  refine sm_aloadV_n (pc := 211) (n := 0) dX9_determinant_211 rfl ?_
  refine gf_X9_108 (pc := 212) rfl dX9_determinant_212 ?_
  refine sm_bipush (pc := 215) dX9_determinant_215 zc_b_11 ?_
  refine sm_iload (pc := 217) (n := 7) dX9_determinant_217 ?_
  refine sm_imulR (pc := 219) dX9_determinant_219 ?_
  refine sm_iload (pc := 220) (n := 5) dX9_determinant_220 ?_
  refine sm_iaddR (pc := 222) dX9_determinant_222 ?_
  refine sm_laloadN (pc := 223) dX9_determinant_223 ?_
  refine sm_aloadV_n (pc := 224) (n := 0) dX9_determinant_224 rfl ?_
  refine gf_X9_108 (pc := 225) rfl dX9_determinant_225 ?_
  refine sm_bipush (pc := 228) dX9_determinant_228 zc_b_11 ?_
  refine sm_iload (pc := 230) (n := 5) dX9_determinant_230 ?_
  refine sm_imulR (pc := 232) dX9_determinant_232 ?_
  refine sm_iload (pc := 233) (n := 8) dX9_determinant_233 ?_
  refine sm_iaddR (pc := 235) dX9_determinant_235 ?_
  refine sm_laloadN (pc := 236) dX9_determinant_236 ?_
  refine sm_lmul (pc := 237) dX9_determinant_237 ?_
  refine sm_lsub (pc := 238) dX9_determinant_238 ?_
  refine sm_lload_n (pc := 239) (n := 2) dX9_determinant_239 rfl ?_
  refine sm_ldivT (pc := 240) dX9_determinant_240 ?_
  refine sm_lastoreN (pc := 241) dX9_determinant_241 ?_
  exact scX9_determinantt_242 P r166 hr166
noncomputable def lX9_determinantt_166 {d : Nat} (P : zP d) (r154 : zK d) (r166 : zK d) : zK d := (xild 8 (xild 1 (xcmpS tgeR rlGe rhS rlS rhLt (xincR 7 1 r154) (xaldV 0 (xgfR 25 41 (xpI 11 (xild 7 (xbin zmulR (xild 8 (xbin zaddR (xaldV 0 (xgfR 25 41 (xpI 11 (xild 7 (xbin zmulR (xild 8 (xbin zaddR (xlalN (xaldV 0 (xgfR 25 41 (xpI 11 (xild 5 (xbin zmulR (xild 5 (cX9_determinantt_208 P r166)))))))))))))))))))))))))
set_option maxRecDepth 100000 in
set_option maxHeartbeats 4000000 in
theorem slX9_determinantt_166 {d : Nat} [zGh] (P : zP d) (r154 : zK d) (r166 : zK d) (hr154 : zSimJ 1 X_X9_determinant 1 P 154 r154) (hr166 : zSimJ 1 X_X9_determinant 1 P 166 r166) : zSim X_X9_determinant 1 P 166 (lX9_determinantt_166 P r154 r166) := by
  unfold lX9_determinantt_166
  refine sm_iload (pc := 166) (n := 8) dX9_determinant_166 ?_
  refine sm_iload_n (pc := 168) (n := 1) dX9_determinant_168 rfl ?_
  refine sm_icmpS_ge (pc := 169) (tgt := 248) dX9_determinant_169 (by decide) ?_ ?_
  · skip
    refine sm_iincR (pc := 248) (n := 7) dX9_determinant_248 zc_i_1 ?_
    refine sm_goto (pc := 251) (tgt := 154) dX9_determinant_251 (by decide) ?_
    exact hr154.use
  · skip
    refine sm_aloadV_n (pc := 172) (n := 0) dX9_determinant_172 rfl ?_
    refine gf_X9_108 (pc := 173) rfl dX9_determinant_173 ?_
    refine sm_bipush (pc := 176) dX9_determinant_176 zc_b_11 ?_
    refine sm_iload (pc := 178) (n := 7) dX9_determinant_178 ?_
    refine sm_imulR (pc := 180) dX9_determinant_180 ?_
    refine sm_iload (pc := 181) (n := 8) dX9_determinant_181 ?_
    refine sm_iaddR (pc := 183) dX9_determinant_183 ?_
    refine sm_aloadV_n (pc := 184) (n := 0) dX9_determinant_184 rfl ?_
    refine gf_X9_108 (pc := 185) rfl dX9_determinant_185 ?_
    refine sm_bipush (pc := 188) dX9_determinant_188 zc_b_11 ?_
    refine sm_iload (pc := 190) (n := 7) dX9_determinant_190 ?_
    refine sm_imulR (pc := 192) dX9_determinant_192 ?_
    refine sm_iload (pc := 193) (n := 8) dX9_determinant_193 ?_
    refine sm_iaddR (pc := 195) dX9_determinant_195 ?_
    refine sm_laloadN (pc := 196) dX9_determinant_196 ?_
    refine sm_aloadV_n (pc := 197) (n := 0) dX9_determinant_197 rfl ?_
    refine gf_X9_108 (pc := 198) rfl dX9_determinant_198 ?_
    refine sm_bipush (pc := 201) dX9_determinant_201 zc_b_11 ?_
    refine sm_iload (pc := 203) (n := 5) dX9_determinant_203 ?_
    refine sm_imulR (pc := 205) dX9_determinant_205 ?_
    refine sm_iload (pc := 206) (n := 5) dX9_determinant_206 ?_
    exact scX9_determinantt_208 P r166 hr166
noncomputable def lX9_determinantt_154 {d : Nat} (P : zP d) (r154 : zK d) (r8 : zK d) : zK d := (xild 7 (xild 1 (xcmpS tgeR rlGe rhS rlS rhLt (xaldV 0 (xgfR 25 41 (xpI 11 (xild 5 (xbin zmulR (xild 5 (xbin zaddR (xlalN (xlst 2 (xincR 5 1 r8)))))))))) (xild 5 (xpI 1 (xbin zaddR (xist 8 (xloop (fun r166 => (lX9_determinantt_166 P r154 r166)) 100000))))))))
set_option maxRecDepth 100000 in
set_option maxHeartbeats 4000000 in
theorem slX9_determinantt_154 {d : Nat} [zGh] (P : zP d) (r154 : zK d) (r8 : zK d) (hr154 : zSimJ 1 X_X9_determinant 1 P 154 r154) (hr8 : zSimJ 1 X_X9_determinant 1 P 8 r8) : zSim X_X9_determinant 1 P 154 (lX9_determinantt_154 P r154 r8) := by
  unfold lX9_determinantt_154
  refine sm_iload (pc := 154) (n := 7) dX9_determinant_154 ?_
  refine sm_iload_n (pc := 156) (n := 1) dX9_determinant_156 rfl ?_
  refine sm_icmpS_ge (pc := 157) (tgt := 254) dX9_determinant_157 (by decide) ?_ ?_
  · skip
    refine sm_aloadV_n (pc := 254) (n := 0) dX9_determinant_254 rfl ?_
    refine gf_X9_108 (pc := 255) rfl dX9_determinant_255 ?_
    refine sm_bipush (pc := 258) dX9_determinant_258 zc_b_11 ?_
    refine sm_iload (pc := 260) (n := 5) dX9_determinant_260 ?_
    refine sm_imulR (pc := 262) dX9_determinant_262 ?_
    refine sm_iload (pc := 263) (n := 5) dX9_determinant_263 ?_
    refine sm_iaddR (pc := 265) dX9_determinant_265 ?_
    refine sm_laloadN (pc := 266) dX9_determinant_266 ?_
    refine sm_lstore_n (pc := 267) (n := 2) dX9_determinant_267 rfl ?_
    refine sm_iincR (pc := 268) (n := 5) dX9_determinant_268 zc_i_1 ?_
    refine sm_goto (pc := 271) (tgt := 8) dX9_determinant_271 (by decide) ?_
    exact hr8.use
  · skip
    refine sm_iload (pc := 160) (n := 5) dX9_determinant_160 ?_
    refine sm_iconst (pc := 162) dX9_determinant_162 zc_i_1 ?_
    refine sm_iaddR (pc := 163) dX9_determinant_163 ?_
    refine sm_istore (pc := 164) (n := 8) dX9_determinant_164 ?_
    exact (sm_loopJ (j := 1) (fun G1 hG1 r166 hr166 => @slX9_determinantt_166 d G1 P r154 r166 (hr154.mv hG1 (by decide)) hr166) _).use
noncomputable def bX9_determinantt_148 {d : Nat} (P : zP d) (r8 : zK d) : zK d := (xild 5 (xpI 1 (xbin zaddR (xist 7 (xloop (fun r154 => (lX9_determinantt_154 P r154 r8)) 100000)))))
set_option maxRecDepth 100000 in
set_option maxHeartbeats 4000000 in
theorem sbX9_determinantt_148 {d : Nat} [zGh] (P : zP d) (r8 : zK d) (hr8 : zSimJ 1 X_X9_determinant 1 P 8 r8) : zSim X_X9_determinant 1 P 148 (bX9_determinantt_148 P r8) := by
  unfold bX9_determinantt_148
  refine sm_iload (pc := 148) (n := 5) dX9_determinant_148 ?_
  refine sm_iconst (pc := 150) dX9_determinant_150 zc_i_1 ?_
  refine sm_iaddR (pc := 151) dX9_determinant_151 ?_
  refine sm_istore (pc := 152) (n := 7) dX9_determinant_152 ?_
  exact (sm_loopJ (j := 1) (fun G1 hG1 r154 hr154 => @slX9_determinantt_154 d G1 P r154 r8 hr154 (hr8.mv hG1 (by decide))) _).use
noncomputable def bX9_determinantt_136 {d : Nat} (P : zP d) (r8 : zK d) : zK d := (xild 6 (xild 5 (xjoin (bX9_determinantt_148 P r8) (fun j148 => (xcmpS teqR rlEq rhEq rlNe rhNe j148 (xild 4 (xun zneg (xist 4 j148))))))))
set_option maxRecDepth 100000 in
set_option maxHeartbeats 4000000 in
theorem sbX9_determinantt_136 {d : Nat} [zGh] (P : zP d) (r8 : zK d) (hr8 : zSimJ 1 X_X9_determinant 1 P 8 r8) : zSim X_X9_determinant 1 P 136 (bX9_determinantt_136 P r8) := by
  unfold bX9_determinantt_136
  refine sm_iload (pc := 136) (n := 6) dX9_determinant_136 ?_
  refine sm_iload (pc := 138) (n := 5) dX9_determinant_138 ?_
  refine sm_joinJ (pc := 140) (pc' := 148) (j := 1) (fun G0 hG0 => @sbX9_determinantt_148 d G0 P r8 (hr8.mv hG0 (by decide))) (fun j148 hj148 => ?_)
  refine sm_icmpS_eq (pc := 140) (tgt := 148) dX9_determinant_140 (by decide) ?_ ?_
  · skip
    exact hj148.use
  · skip
    refine sm_iload (pc := 143) (n := 4) dX9_determinant_143 ?_
    refine sm_ineg (pc := 145) dX9_determinant_145 ?_
    refine sm_istore (pc := 146) (n := 4) dX9_determinant_146 ?_
    exact hj148.use
noncomputable def cX9_determinantt_105 {d : Nat} (P : zP d) (r61 : zK d) : zK d := (xpI 11 (xild 5 (xbin zmulR (xild 7 (xbin zaddR (xlalN (xlasN (xaldV 0 (xgfR 25 41 (xpI 11 (xild 5 (xbin zmulR (xild 7 (xbin zaddR (xlld 8 (xlasN (xincR 7 1 r61)))))))))))))))))
set_option maxRecDepth 100000 in
set_option maxHeartbeats 4000000 in
theorem scX9_determinantt_105 {d : Nat} [zGh] (P : zP d) (r61 : zK d) (hr61 : zSimJ 1 X_X9_determinant 1 P 61 r61) : zSim X_X9_determinant 1 P 105 (cX9_determinantt_105 P r61) := by
  unfold cX9_determinantt_105
  refine sm_bipush (pc := 105) dX9_determinant_105 zc_b_11 ?_
  refine sm_iload (pc := 107) (n := 5) dX9_determinant_107 ?_
  refine sm_imulR (pc := 109) dX9_determinant_109 ?_
  refine sm_iload (pc := 110) (n := 7) dX9_determinant_110 ?_
  refine sm_iaddR (pc := 112) dX9_determinant_112 ?_
  refine sm_laloadN (pc := 113) dX9_determinant_113 ?_
  refine sm_lastoreN (pc := 114) dX9_determinant_114 ?_
  refine sm_aloadV_n (pc := 115) (n := 0) dX9_determinant_115 rfl ?_
  refine gf_X9_108 (pc := 116) rfl dX9_determinant_116 ?_
  refine sm_bipush (pc := 119) dX9_determinant_119 zc_b_11 ?_
  refine sm_iload (pc := 121) (n := 5) dX9_determinant_121 ?_
  refine sm_imulR (pc := 123) dX9_determinant_123 ?_
  refine sm_iload (pc := 124) (n := 7) dX9_determinant_124 ?_
  refine sm_iaddR (pc := 126) dX9_determinant_126 ?_
  refine sm_lload (pc := 127) (n := 8) dX9_determinant_127 ?_
  refine sm_lastoreN (pc := 129) dX9_determinant_129 ?_
  refine sm_iincR (pc := 130) (n := 7) dX9_determinant_130 zc_i_1 ?_
  refine sm_goto (pc := 133) (tgt := 61) dX9_determinant_133 (by decide) ?_
  exact hr61.use
noncomputable def lX9_determinantt_61 {d : Nat} (P : zP d) (r61 : zK d) (r8 : zK d) : zK d := (xild 7 (xild 1 (xjoin (bX9_determinantt_136 P r8) (fun j136 => (xcmpS tgeR rlGe rhS rlS rhLt j136 (xild 6 (xild 5 (xcmpS teqR rlEq rhEq rlNe rhNe j136 (xaldV 0 (xgfR 25 41 (xpI 11 (xild 6 (xbin zmulR (xild 7 (xbin zaddR (xlalN (xlst 8 (xaldV 0 (xgfR 25 41 (xpI 11 (xild 6 (xbin zmulR (xild 7 (xbin zaddR (xaldV 0 (xgfR 25 41 (cX9_determinantt_105 P r61)))))))))))))))))))))))))))
set_option maxRecDepth 100000 in
set_option maxHeartbeats 4000000 in
theorem slX9_determinantt_61 {d : Nat} [zGh] (P : zP d) (r61 : zK d) (r8 : zK d) (hr61 : zSimJ 1 X_X9_determinant 1 P 61 r61) (hr8 : zSimJ 1 X_X9_determinant 1 P 8 r8) : zSim X_X9_determinant 1 P 61 (lX9_determinantt_61 P r61 r8) := by
  unfold lX9_determinantt_61
  refine sm_iload (pc := 61) (n := 7) dX9_determinant_61 ?_
  refine sm_iload_n (pc := 63) (n := 1) dX9_determinant_63 rfl ?_
  refine sm_joinJ (pc := 64) (pc' := 136) (j := 1) (fun G0 hG0 => @sbX9_determinantt_136 d G0 P r8 (hr8.mv hG0 (by decide))) (fun j136 hj136 => ?_)
  refine sm_icmpS_ge (pc := 64) (tgt := 136) dX9_determinant_64 (by decide) ?_ ?_
  · skip
    exact hj136.use
  · skip
    refine sm_iload (pc := 67) (n := 6) dX9_determinant_67 ?_
    refine sm_iload (pc := 69) (n := 5) dX9_determinant_69 ?_
    refine sm_icmpS_eq (pc := 71) (tgt := 136) dX9_determinant_71 (by decide) ?_ ?_
    · skip
      exact hj136.use
    · skip
      refine sm_aloadV_n (pc := 74) (n := 0) dX9_determinant_74 rfl ?_
      refine gf_X9_108 (pc := 75) rfl dX9_determinant_75 ?_
      refine sm_bipush (pc := 78) dX9_determinant_78 zc_b_11 ?_
      refine sm_iload (pc := 80) (n := 6) dX9_determinant_80 ?_
      refine sm_imulR (pc := 82) dX9_determinant_82 ?_
      refine sm_iload (pc := 83) (n := 7) dX9_determinant_83 ?_
      refine sm_iaddR (pc := 85) dX9_determinant_85 ?_
      refine sm_laloadN (pc := 86) dX9_determinant_86 ?_
      refine sm_lstore (pc := 87) (n := 8) dX9_determinant_87 ?_
      refine sm_aloadV_n (pc := 89) (n := 0) dX9_determinant_89 rfl ?_
      refine gf_X9_108 (pc := 90) rfl dX9_determinant_90 ?_
      refine sm_bipush (pc := 93) dX9_determinant_93 zc_b_11 ?_
      refine sm_iload (pc := 95) (n := 6) dX9_determinant_95 ?_
      refine sm_imulR (pc := 97) dX9_determinant_97 ?_
      refine sm_iload (pc := 98) (n := 7) dX9_determinant_98 ?_
      refine sm_iaddR (pc := 100) dX9_determinant_100 ?_
      refine sm_aloadV_n (pc := 101) (n := 0) dX9_determinant_101 rfl ?_
      refine gf_X9_108 (pc := 102) rfl dX9_determinant_102 ?_
      exact scX9_determinantt_105 P r61 hr61
noncomputable def bX9_determinantt_50 {d : Nat} (P : zP d) (r8 : zK d) : zK d := (xild 6 (xild 1 (xcmpS teqR rlEq rhEq rlNe rhNe (xpL 0 (xlret P)) (xpI 0 (xist 7 (xloop (fun r61 => (lX9_determinantt_61 P r61 r8)) 100000))))))
set_option maxRecDepth 100000 in
set_option maxHeartbeats 4000000 in
theorem sbX9_determinantt_50 {d : Nat} [zGh] (P : zP d) (r8 : zK d) (hr8 : zSimJ 1 X_X9_determinant 1 P 8 r8) : zSim X_X9_determinant 1 P 50 (bX9_determinantt_50 P r8) := by
  unfold bX9_determinantt_50
  refine sm_iload (pc := 50) (n := 6) dX9_determinant_50 ?_
  refine sm_iload_n (pc := 52) (n := 1) dX9_determinant_52 rfl ?_
  refine sm_icmpS_ne (pc := 53) (tgt := 58) dX9_determinant_53 (by decide) ?_ ?_
  · skip
    refine sm_iconst (pc := 58) dX9_determinant_58 zc_i_0 ?_
    refine sm_istore (pc := 59) (n := 7) dX9_determinant_59 ?_
    exact (sm_loopJ (j := 1) (fun G1 hG1 r61 hr61 => @slX9_determinantt_61 d G1 P r61 r8 hr61 (hr8.mv hG1 (by decide))) _).use
  · skip
    refine sm_lconst (pc := 56) dX9_determinant_56 zc_l_0 ?_
    exact sm_lreturn (pc := 57) dX9_determinant_57 rfl
noncomputable def lX9_determinantt_20 {d : Nat} (P : zP d) (r20 : zK d) (r8 : zK d) : zK d := (xild 6 (xild 1 (xjoin (bX9_determinantt_50 P r8) (fun j50 => (xcmpS tgeR rlGe rhS rlS rhLt j50 (xaldV 0 (xgfR 25 41 (xpI 11 (xild 6 (xbin zmulR (xild 5 (xbin zaddR (xlalz (xincR 6 1 r20) j50)))))))))))))
set_option maxRecDepth 100000 in
set_option maxHeartbeats 4000000 in
theorem slX9_determinantt_20 {d : Nat} [zGh] (P : zP d) (r20 : zK d) (r8 : zK d) (hr20 : zSimJ 1 X_X9_determinant 1 P 20 r20) (hr8 : zSimJ 1 X_X9_determinant 1 P 8 r8) : zSim X_X9_determinant 1 P 20 (lX9_determinantt_20 P r20 r8) := by
  unfold lX9_determinantt_20
  refine sm_iload (pc := 20) (n := 6) dX9_determinant_20 ?_
  refine sm_iload_n (pc := 22) (n := 1) dX9_determinant_22 rfl ?_
  refine sm_joinJ (pc := 23) (pc' := 50) (j := 1) (fun G0 hG0 => @sbX9_determinantt_50 d G0 P r8 (hr8.mv hG0 (by decide))) (fun j50 hj50 => ?_)
  refine sm_icmpS_ge (pc := 23) (tgt := 50) dX9_determinant_23 (by decide) ?_ ?_
  · skip
    exact hj50.use
  · skip
    refine sm_aloadV_n (pc := 26) (n := 0) dX9_determinant_26 rfl ?_
    refine gf_X9_108 (pc := 27) rfl dX9_determinant_27 ?_
    refine sm_bipush (pc := 30) dX9_determinant_30 zc_b_11 ?_
    refine sm_iload (pc := 32) (n := 6) dX9_determinant_32 ?_
    refine sm_imulR (pc := 34) dX9_determinant_34 ?_
    refine sm_iload (pc := 35) (n := 5) dX9_determinant_35 ?_
    refine sm_iaddR (pc := 37) dX9_determinant_37 ?_
    refine sm_lalz (pc := 38) (tgt := 50) dX9_determinant_38 dX9_determinant_39 rfl dX9_determinant_40 dX9_determinant_41 (by decide) ?_ ?_
    · skip
      exact hj50.use
    · skip
      refine sm_iincR (pc := 44) (n := 6) dX9_determinant_44 zc_i_1 ?_
      refine sm_goto (pc := 47) (tgt := 20) dX9_determinant_47 (by decide) ?_
      exact hr20.use
noncomputable def lX9_determinantt_8 {d : Nat} (P : zP d) (r8 : zK d) : zK d := (xild 5 (xild 1 (xpI 1 (xbin zsubR (xcmpS tgeR rlGe rhS rlS rhLt (xild 1 (xjoin (bX9_determinantt_301 P) (fun j301 => (xif0S teqR rlEq rhEq rlNe rhNe (xpL 1 j301) (xild 4 (xi2lR (xaldV 0 (xgfR 25 41 (xpI 11 (xild 1 (xpI 1 (xbin zsubR (xbin zmulR (xild 1 (xbin zaddR (xpI 1 (xbin zsubR (xlalN (xbinj zmulj j301))))))))))))))))))) (xild 5 (xist 6 (xloop (fun r20 => (lX9_determinantt_20 P r20 r8)) 100000))))))))
set_option maxRecDepth 100000 in
set_option maxHeartbeats 4000000 in
theorem slX9_determinantt_8 {d : Nat} [zGh] (P : zP d) (r8 : zK d) (hr8 : zSimJ 1 X_X9_determinant 1 P 8 r8) : zSim X_X9_determinant 1 P 8 (lX9_determinantt_8 P r8) := by
  unfold lX9_determinantt_8
  refine sm_iload (pc := 8) (n := 5) dX9_determinant_8 ?_
  refine sm_iload_n (pc := 10) (n := 1) dX9_determinant_10 rfl ?_
  refine sm_iconst (pc := 11) dX9_determinant_11 zc_i_1 ?_
  refine sm_isubR (pc := 12) dX9_determinant_12 ?_
  refine sm_icmpS_ge (pc := 13) (tgt := 274) dX9_determinant_13 (by decide) ?_ ?_
  · skip
    refine sm_iload_n (pc := 274) (n := 1) dX9_determinant_274 rfl ?_
    refine sm_joinJ (pc := 275) (pc' := 301) (j := 1) (fun G0 hG0 => @sbX9_determinantt_301 d G0 P) (fun j301 hj301 => ?_)
    refine sm_ifS_ne (pc := 275) (tgt := 282) dX9_determinant_275 (by decide) ?_ ?_
    · skip
      refine sm_iload (pc := 282) (n := 4) dX9_determinant_282 ?_
      refine sm_i2lR (pc := 284) dX9_determinant_284 ?_
      refine sm_aloadV_n (pc := 285) (n := 0) dX9_determinant_285 rfl ?_
      refine gf_X9_108 (pc := 286) rfl dX9_determinant_286 ?_
      refine sm_bipush (pc := 289) dX9_determinant_289 zc_b_11 ?_
      refine sm_iload_n (pc := 291) (n := 1) dX9_determinant_291 rfl ?_
      refine sm_iconst (pc := 292) dX9_determinant_292 zc_i_1 ?_
      refine sm_isubR (pc := 293) dX9_determinant_293 ?_
      refine sm_imulR (pc := 294) dX9_determinant_294 ?_
      refine sm_iload_n (pc := 295) (n := 1) dX9_determinant_295 rfl ?_
      refine sm_iaddR (pc := 296) dX9_determinant_296 ?_
      refine sm_iconst (pc := 297) dX9_determinant_297 zc_i_1 ?_
      refine sm_isubR (pc := 298) dX9_determinant_298 ?_
      refine sm_laloadN (pc := 299) dX9_determinant_299 ?_
      refine sm_lmul (pc := 300) dX9_determinant_300 ?_
      exact hj301.use
    · skip
      refine sm_lconst (pc := 278) dX9_determinant_278 zc_l_1 ?_
      refine sm_goto (pc := 279) (tgt := 301) dX9_determinant_279 (by decide) ?_
      exact hj301.use
  · skip
    refine sm_iload (pc := 16) (n := 5) dX9_determinant_16 ?_
    refine sm_istore (pc := 18) (n := 6) dX9_determinant_18 ?_
    exact (sm_loopJ (j := 1) (fun G1 hG1 r20 hr20 => @slX9_determinantt_20 d G1 P r20 r8 hr20 (hr8.mv hG1 (by decide))) _).use
noncomputable def b_X9_determinantt {d : Nat} (P : zP d) : zK d := (xpL 1 (xlst 2 (xpI 1 (xist 4 (xpI 0 (xist 5 (xloop (fun r8 => (lX9_determinantt_8 P r8)) 100000)))))))
set_option maxRecDepth 100000 in
set_option maxHeartbeats 4000000 in
theorem s_X9_determinantt {d : Nat} [zGh] (P : zP d) : zSim X_X9_determinant 1 P 0 (b_X9_determinantt P) := by
  unfold b_X9_determinantt
  refine sm_lconst (pc := 0) dX9_determinant_0 zc_l_1 ?_
  refine sm_lstore_n (pc := 1) (n := 2) dX9_determinant_1 rfl ?_
  refine sm_iconst (pc := 2) dX9_determinant_2 zc_i_1 ?_
  refine sm_istore (pc := 3) (n := 4) dX9_determinant_3 ?_
  refine sm_iconst (pc := 5) dX9_determinant_5 zc_i_0 ?_
  refine sm_istore (pc := 6) (n := 5) dX9_determinant_6 ?_
  exact (sm_loopJ (j := 1) (fun G1 hG1 r8 hr8 => @slX9_determinantt_8 d G1 P r8 hr8) _).use
noncomputable def f_X9_determinantt {d : Nat} : List zV → zH d → zP d → Bool := zfn 10 (b_X9_determinantt )
theorem m_X9_determinantt {d : Nat} : zMet (d := d) X_X9_determinant yX9_determinant 1 (f_X9_determinantt ) := zmet_mk (X := X_X9_determinant) (by decide) rfl rfl (fun P => s_X9_determinantt P)

noncomputable def bX9_blockt_229 {d : Nat} (P : zP d) : zK d := (xpI 4294967295 (xiret P))
set_option maxRecDepth 100000 in
set_option maxHeartbeats 4000000 in
theorem sbX9_blockt_229 {d : Nat} [zGh] (P : zP d) : zSim X_X9_block 2 P 229 (bX9_blockt_229 P) := by
  unfold bX9_blockt_229
  refine sm_iconst (pc := 229) dX9_block_229 zc_i_m1 ?_
  exact sm_ireturn (pc := 230) dX9_block_230 rfl
noncomputable def bX9_blockt_120 {d : Nat} (P : zP d) : zK d := (xild 4 (xiret P))
set_option maxRecDepth 100000 in
set_option maxHeartbeats 4000000 in
theorem sbX9_blockt_120 {d : Nat} [zGh] (P : zP d) : zSim X_X9_block 2 P 120 (bX9_blockt_120 P) := by
  unfold bX9_blockt_120
  refine sm_iload (pc := 120) (n := 4) dX9_block_120 ?_
  exact sm_ireturn (pc := 122) dX9_block_122 rfl
noncomputable def bX9_blockt_123 {d : Nat} (P : zP d) : zK d := (xild 3 (xiret P))
set_option maxRecDepth 100000 in
set_option maxHeartbeats 4000000 in
theorem sbX9_blockt_123 {d : Nat} [zGh] (P : zP d) : zSim X_X9_block 2 P 123 (bX9_blockt_123 P) := by
  unfold bX9_blockt_123
  refine sm_iload_n (pc := 123) (n := 3) dX9_block_123 rfl ?_
  exact sm_ireturn (pc := 124) dX9_block_124 rfl
noncomputable def bX9_blockt_125 {d : Nat} (P : zP d) : zK d := (xaldV 0 (xgfR 25 15 (xaldV 0 (xgfR 25 19 (xild 1 (xalQ 0 (xalQ 0 (xiret P))))))))
set_option maxRecDepth 100000 in
set_option maxHeartbeats 4000000 in
theorem sbX9_blockt_125 {d : Nat} [zGh] (P : zP d) : zSim X_X9_block 2 P 125 (bX9_blockt_125 P) := by
  unfold bX9_blockt_125
  refine sm_aloadV_n (pc := 125) (n := 0) dX9_block_125 rfl ?_
  refine gf_X9_41 (pc := 126) rfl dX9_block_126 ?_
  refine sm_aloadV_n (pc := 129) (n := 0) dX9_block_129 rfl ?_
  refine gf_X9_50 (pc := 130) rfl dX9_block_130 ?_
  refine sm_iload_n (pc := 133) (n := 1) dX9_block_133 rfl ?_
  refine sm_ialoadQ (pc := 134) dX9_block_134 ?_
  refine sm_ialoadQ (pc := 135) dX9_block_135 ?_
  exact sm_ireturn (pc := 136) dX9_block_136 rfl
noncomputable def bX9_blockt_137 {d : Nat} (P : zP d) : zK d := (xaldV 0 (xaldV 0 (xgfR 25 15 (xaldV 0 (xgfR 25 19 (xild 1 (xalQ 0 (xalQ 0 (xcV 25 2 0 0 (zstr f_X9_defect) (xiret P))))))))))
set_option maxRecDepth 100000 in
set_option maxHeartbeats 4000000 in
theorem sbX9_blockt_137 {d : Nat} [zGh] (P : zP d) : zSim X_X9_block 2 P 137 (bX9_blockt_137 P) := by
  unfold bX9_blockt_137
  refine sm_aloadV_n (pc := 137) (n := 0) dX9_block_137 rfl ?_
  refine sm_aloadV_n (pc := 138) (n := 0) dX9_block_138 rfl ?_
  refine gf_X9_41 (pc := 139) rfl dX9_block_139 ?_
  refine sm_aloadV_n (pc := 142) (n := 0) dX9_block_142 rfl ?_
  refine gf_X9_50 (pc := 143) rfl dX9_block_143 ?_
  refine sm_iload_n (pc := 146) (n := 1) dX9_block_146 rfl ?_
  refine sm_ialoadQ (pc := 147) dX9_block_147 ?_
  refine sm_ialoadQ (pc := 148) dX9_block_148 ?_
  refine sm_cV (pc := 149) (ci := 9) (n := 2) (mc := 0) (ms := 0) rfl (zMet_str m_X9_defect) (cr_X9_312 (X := X_X9_block) (fr := 2) (frc := 1) (pc := 149) (mc := 0) (ms := 0) rfl (by decide) dX9_block_149) ?_
  exact sm_ireturn (pc := 152) dX9_block_152 rfl
noncomputable def bX9_blockt_153 {d : Nat} (P : zP d) : zK d := (xaldV 0 (xgfR 25 19 (xild 1 (xalQ 0 (xiret P)))))
set_option maxRecDepth 100000 in
set_option maxHeartbeats 4000000 in
theorem sbX9_blockt_153 {d : Nat} [zGh] (P : zP d) : zSim X_X9_block 2 P 153 (bX9_blockt_153 P) := by
  unfold bX9_blockt_153
  refine sm_aloadV_n (pc := 153) (n := 0) dX9_block_153 rfl ?_
  refine gf_X9_50 (pc := 154) rfl dX9_block_154 ?_
  refine sm_iload_n (pc := 157) (n := 1) dX9_block_157 rfl ?_
  refine sm_ialoadQ (pc := 158) dX9_block_158 ?_
  exact sm_ireturn (pc := 159) dX9_block_159 rfl
noncomputable def lX9_blockt_172 {d : Nat} (P : zP d) (r163 : zK d) (r172 : zK d) : zK d := (xild 6 (xild 3 (xcmpS tgeR rlGe rhS rlS rhLt (xincR 5 1 r163) (xaldV 0 (xgfR 25 41 (xpI 11 (xild 5 (xbin zmulR (xild 6 (xbin zaddR (xaldV 0 (xaldV 0 (xgfR 25 42 (xild 5 (xalQ 0 (xaldV 0 (xgfR 25 42 (xild 6 (xalQ 0 (xcV 25 3 0 0 (zstr f_X9_cartanOf) (xi2lR (xlas (xincR 6 1 r172)))))))))))))))))))))))
set_option maxRecDepth 100000 in
set_option maxHeartbeats 4000000 in
theorem slX9_blockt_172 {d : Nat} [zGh] (P : zP d) (r163 : zK d) (r172 : zK d) (hr163 : zSimJ 1 X_X9_block 2 P 163 r163) (hr172 : zSimJ 1 X_X9_block 2 P 172 r172) : zSim X_X9_block 2 P 172 (lX9_blockt_172 P r163 r172) := by
  unfold lX9_blockt_172
  refine sm_iload (pc := 172) (n := 6) dX9_block_172 ?_
  refine sm_iload_n (pc := 174) (n := 3) dX9_block_174 rfl ?_
  refine sm_icmpS_ge (pc := 175) (tgt := 216) dX9_block_175 (by decide) ?_ ?_
  · skip
    refine sm_iincR (pc := 216) (n := 5) dX9_block_216 zc_i_1 ?_
    refine sm_goto (pc := 219) (tgt := 163) dX9_block_219 (by decide) ?_
    exact hr163.use
  · skip
    refine sm_aloadV_n (pc := 178) (n := 0) dX9_block_178 rfl ?_
    refine gf_X9_108 (pc := 179) rfl dX9_block_179 ?_
    refine sm_bipush (pc := 182) dX9_block_182 zc_b_11 ?_
    refine sm_iload (pc := 184) (n := 5) dX9_block_184 ?_
    refine sm_imulR (pc := 186) dX9_block_186 ?_
    refine sm_iload (pc := 187) (n := 6) dX9_block_187 ?_
    refine sm_iaddR (pc := 189) dX9_block_189 ?_
    refine sm_aloadV_n (pc := 190) (n := 0) dX9_block_190 rfl ?_
    refine sm_aloadV_n (pc := 191) (n := 0) dX9_block_191 rfl ?_
    refine gf_X9_112 (pc := 192) rfl dX9_block_192 ?_
    refine sm_iload (pc := 195) (n := 5) dX9_block_195 ?_
    refine sm_ialoadQ (pc := 197) dX9_block_197 ?_
    refine sm_aloadV_n (pc := 198) (n := 0) dX9_block_198 rfl ?_
    refine gf_X9_112 (pc := 199) rfl dX9_block_199 ?_
    refine sm_iload (pc := 202) (n := 6) dX9_block_202 ?_
    refine sm_ialoadQ (pc := 204) dX9_block_204 ?_
    refine sm_cV (pc := 205) (ci := 9) (n := 3) (mc := 0) (ms := 0) rfl (zMet_str m_X9_cartanOf) (cr_X9_306 (X := X_X9_block) (fr := 2) (frc := 1) (pc := 205) (mc := 0) (ms := 0) rfl (by decide) dX9_block_205) ?_
    refine sm_i2lR (pc := 208) dX9_block_208 ?_
    refine sm_lastore (pc := 209) dX9_block_209 ?_
    refine sm_iincR (pc := 210) (n := 6) dX9_block_210 zc_i_1 ?_
    refine sm_goto (pc := 213) (tgt := 172) dX9_block_213 (by decide) ?_
    exact hr172.use
noncomputable def lX9_blockt_163 {d : Nat} (P : zP d) (r163 : zK d) : zK d := (xild 5 (xild 3 (xcmpS tgeR rlGe rhS rlS rhLt (xaldV 0 (xild 3 (xcV 25 2 0 0 (zstr f_X9_determinantt) (xl2i (xiret P))))) (xpI 0 (xist 6 (xloop (fun r172 => (lX9_blockt_172 P r163 r172)) 100000))))))
set_option maxRecDepth 100000 in
set_option maxHeartbeats 4000000 in
theorem slX9_blockt_163 {d : Nat} [zGh] (P : zP d) (r163 : zK d) (hr163 : zSimJ 1 X_X9_block 2 P 163 r163) : zSim X_X9_block 2 P 163 (lX9_blockt_163 P r163) := by
  unfold lX9_blockt_163
  refine sm_iload (pc := 163) (n := 5) dX9_block_163 ?_
  refine sm_iload_n (pc := 165) (n := 3) dX9_block_165 rfl ?_
  refine sm_icmpS_ge (pc := 166) (tgt := 222) dX9_block_166 (by decide) ?_ ?_
  · skip
    refine sm_aloadV_n (pc := 222) (n := 0) dX9_block_222 rfl ?_
    refine sm_iload_n (pc := 223) (n := 3) dX9_block_223 rfl ?_
    refine sm_cV (pc := 224) (ci := 9) (n := 2) (mc := 0) (ms := 0) rfl (zMet_str m_X9_determinantt) (cr_X9_315 (X := X_X9_block) (fr := 2) (frc := 1) (pc := 224) (mc := 0) (ms := 0) rfl (by decide) dX9_block_224) ?_
    refine sm_l2i (pc := 227) dX9_block_227 ?_
    exact sm_ireturn (pc := 228) dX9_block_228 rfl
  · skip
    refine sm_iconst (pc := 169) dX9_block_169 zc_i_0 ?_
    refine sm_istore (pc := 170) (n := 6) dX9_block_170 ?_
    exact (sm_loopJ (j := 1) (fun G1 hG1 r172 hr172 => @slX9_blockt_172 d G1 P r163 r172 (hr163.mv hG1 (by decide)) hr172) _).use
noncomputable def bX9_blockt_160 {d : Nat} (P : zP d) : zK d := (xpI 0 (xist 5 (xloop (fun r163 => (lX9_blockt_163 P r163)) 100000)))
set_option maxRecDepth 100000 in
set_option maxHeartbeats 4000000 in
theorem sbX9_blockt_160 {d : Nat} [zGh] (P : zP d) : zSim X_X9_block 2 P 160 (bX9_blockt_160 P) := by
  unfold bX9_blockt_160
  refine sm_iconst (pc := 160) dX9_block_160 zc_i_0 ?_
  refine sm_istore (pc := 161) (n := 5) dX9_block_161 ?_
  exact (sm_loopJ (j := 1) (fun G1 hG1 r163 hr163 => @slX9_blockt_163 d G1 P r163 hr163) _).use
noncomputable def bX9_blockt_67 {d : Nat} (P : zP d) (r40 : zK d) : zK d := (xcS 1 0 0 (zstr f_X9_one) (xbin zaddR (xist 4 (xincR 5 1 r40))))
set_option maxRecDepth 100000 in
set_option maxHeartbeats 4000000 in
theorem sbX9_blockt_67 {d : Nat} [zGh] (P : zP d) (r40 : zK d) (hr40 : zSimJ 1 X_X9_block 2 P 40 r40) : zSim X_X9_block 2 P 67 (bX9_blockt_67 P r40) := by
  unfold bX9_blockt_67
  refine sm_cS (pc := 67) (n := 1) (mc := 0) (ms := 0) (zMet_str m_X9_one) (cr_X9_187 (X := X_X9_block) (fr := 2) (frc := 1) (pc := 67) (mc := 0) (ms := 0) rfl (by decide) dX9_block_67) ?_
  refine sm_iaddR (pc := 70) dX9_block_70 ?_
  refine sm_istore (pc := 71) (n := 4) dX9_block_71 ?_
  refine sm_iincR (pc := 73) (n := 5) dX9_block_73 zc_i_1 ?_
  refine sm_goto (pc := 76) (tgt := 40) dX9_block_76 (by decide) ?_
  exact hr40.use
noncomputable def lX9_blockt_40 {d : Nat} (P : zP d) (r40 : zK d) : zK d := (xild 5 (xaldV 0 (xgfI 25 2 (xcmpS tgeR rlGe rhS rlS rhLt (xild 2 (xtswR 5 [(bX9_blockt_120 P), (bX9_blockt_123 P), (bX9_blockt_125 P), (bX9_blockt_137 P), (bX9_blockt_153 P), (bX9_blockt_160 P)] (bX9_blockt_229 P))) (xild 4 (xaldV 0 (xgfR 25 17 (xild 5 (xalQ 0 (xild 1 (xjoin (bX9_blockt_67 P r40) (fun j67 => (xcmpS teqR rlEq rhEq rlNe rhNe (xpI 1 j67) (xpI 0 j67))))))))))))))
set_option maxRecDepth 100000 in
set_option maxHeartbeats 4000000 in
theorem slX9_blockt_40 {d : Nat} [zGh] (P : zP d) (r40 : zK d) (hr40 : zSimJ 1 X_X9_block 2 P 40 r40) : zSim X_X9_block 2 P 40 (lX9_blockt_40 P r40) := by
  unfold lX9_blockt_40
  refine sm_iload (pc := 40) (n := 5) dX9_block_40 ?_
  refine sm_aloadV_n (pc := 42) (n := 0) dX9_block_42 rfl ?_
  refine gf_X9_153 (pc := 43) rfl dX9_block_43 ?_
  refine sm_icmpS_ge (pc := 46) (tgt := 79) dX9_block_46 (by decide) ?_ ?_
  · skip
    refine sm_iload_n (pc := 79) (n := 2) dX9_block_79 rfl ?_
    exact sm_tswR (pc := 80) (n := 5) (tdf := 229) [120, 123, 125, 137, 153, 160] rfl (by decide) dX9_block_80 rfl (by decide +kernel) (by decide) (sbX9_blockt_229 P) ⟨sbX9_blockt_120 P, sbX9_blockt_123 P, sbX9_blockt_125 P, sbX9_blockt_137 P, sbX9_blockt_153 P, sbX9_blockt_160 P, trivial⟩
  · skip
    refine sm_iload (pc := 49) (n := 4) dX9_block_49 ?_
    refine sm_aloadV_n (pc := 51) (n := 0) dX9_block_51 rfl ?_
    refine gf_X9_47 (pc := 52) rfl dX9_block_52 ?_
    refine sm_iload (pc := 55) (n := 5) dX9_block_55 ?_
    refine sm_ialoadQ (pc := 57) dX9_block_57 ?_
    refine sm_iload_n (pc := 58) (n := 1) dX9_block_58 rfl ?_
    refine sm_joinJ (pc := 59) (pc' := 67) (j := 1) (fun G0 hG0 => @sbX9_blockt_67 d G0 P r40 (hr40.mv hG0 (by decide))) (fun j67 hj67 => ?_)
    refine sm_icmpS_ne (pc := 59) (tgt := 66) dX9_block_59 (by decide) ?_ ?_
    · skip
      refine sm_iconst (pc := 66) dX9_block_66 zc_i_0 ?_
      exact hj67.use
    · skip
      refine sm_iconst (pc := 62) dX9_block_62 zc_i_1 ?_
      refine sm_goto (pc := 63) (tgt := 67) dX9_block_63 (by decide) ?_
      exact hj67.use
noncomputable def b_X9_blockt {d : Nat} (P : zP d) : zK d := (xild 2 (xpI 4294967295 (xcmpS teqR rlEq rhEq rlNe rhNe (xaldV 0 (xgfI 25 18 (xiret P))) (xild 1 (xi2lR (xpL 0 (xaldV 0 (xgfI 25 18 (xpI 1 (xbin zsubR (xi2lR (xcS 3 0 0 (zstr f_X9_isIna) (xif0S teqR rlEq rhEq rlNe rhNe (xpI 4294967295 (xiret P)) (xaldV 0 (xild 1 (xcV 25 2 0 0 (zstr f_X9_membersOf) (xist 3 (xpI 0 (xist 4 (xpI 0 (xist 5 (xloop (fun r40 => (lX9_blockt_40 P r40)) 100000))))))))))))))))))))))
set_option maxRecDepth 100000 in
set_option maxHeartbeats 4000000 in
theorem s_X9_blockt {d : Nat} [zGh] (P : zP d) : zSim X_X9_block 2 P 0 (b_X9_blockt P) := by
  unfold b_X9_blockt
  refine sm_iload_n (pc := 0) (n := 2) dX9_block_0 rfl ?_
  refine sm_iconst (pc := 1) dX9_block_1 zc_i_m1 ?_
  refine sm_icmpS_ne (pc := 2) (tgt := 10) dX9_block_2 (by decide) ?_ ?_
  · skip
    refine sm_iload_n (pc := 10) (n := 1) dX9_block_10 rfl ?_
    refine sm_i2lR (pc := 11) dX9_block_11 ?_
    refine sm_lconst (pc := 12) dX9_block_12 zc_l_0 ?_
    refine sm_aloadV_n (pc := 13) (n := 0) dX9_block_13 rfl ?_
    refine gf_X9_199 (pc := 14) rfl dX9_block_14 ?_
    refine sm_iconst (pc := 17) dX9_block_17 zc_i_1 ?_
    refine sm_isubR (pc := 18) dX9_block_18 ?_
    refine sm_i2lR (pc := 19) dX9_block_19 ?_
    refine sm_cS (pc := 20) (n := 3) (mc := 0) (ms := 0) (zMet_str m_X9_isIna) (cr_X9_283 (X := X_X9_block) (fr := 2) (frc := 1) (pc := 20) (mc := 0) (ms := 0) rfl (by decide) dX9_block_20) ?_
    refine sm_ifS_ne (pc := 23) (tgt := 28) dX9_block_23 (by decide) ?_ ?_
    · skip
      refine sm_aloadV_n (pc := 28) (n := 0) dX9_block_28 rfl ?_
      refine sm_iload_n (pc := 29) (n := 1) dX9_block_29 rfl ?_
      refine sm_cV (pc := 30) (ci := 9) (n := 2) (mc := 0) (ms := 0) rfl (zMet_str m_X9_membersOf) (cr_X9_309 (X := X_X9_block) (fr := 2) (frc := 1) (pc := 30) (mc := 0) (ms := 0) rfl (by decide) dX9_block_30) ?_
      refine sm_istore_n (pc := 33) (n := 3) dX9_block_33 rfl ?_
      refine sm_iconst (pc := 34) dX9_block_34 zc_i_0 ?_
      refine sm_istore (pc := 35) (n := 4) dX9_block_35 ?_
      refine sm_iconst (pc := 37) dX9_block_37 zc_i_0 ?_
      refine sm_istore (pc := 38) (n := 5) dX9_block_38 ?_
      exact (sm_loopJ (j := 1) (fun G1 hG1 r40 hr40 => @slX9_blockt_40 d G1 P r40 hr40) _).use
    · skip
      refine sm_iconst (pc := 26) dX9_block_26 zc_i_m1 ?_
      exact sm_ireturn (pc := 27) dX9_block_27 rfl
  · skip
    refine sm_aloadV_n (pc := 5) (n := 0) dX9_block_5 rfl ?_
    refine gf_X9_199 (pc := 6) rfl dX9_block_6 ?_
    exact sm_ireturn (pc := 9) dX9_block_9 rfl
noncomputable def f_X9_blockt {d : Nat} : List zV → zH d → zP d → Bool := zfn 7 (b_X9_blockt )
theorem m_X9_blockt {d : Nat} : zMet (d := d) X_X9_block yX9_block 2 (f_X9_blockt ) := zmet_mk (X := X_X9_block) (by decide) rfl rfl (fun P => s_X9_blockt P)
