/-! the class, by program -/
abbrev X_X5_isRegular : zM := (RX5, cX5_isRegular, 2, (some .boolean), "isRegular")
noncomputable def bX5_isRegular_15 {d : Nat} (P : zP d) : zK d := (xzret P)
set_option maxRecDepth 100000 in
set_option maxHeartbeats 4000000 in
theorem sbX5_isRegular_15 {d : Nat} [zGh] (P : zP d) : zSim X_X5_isRegular 1 P 15 (bX5_isRegular_15 P) := by
  unfold bX5_isRegular_15
  exact sm_zreturn (pc := 15) dX5_isRegular_15 rfl
noncomputable def b_X5_isRegular {d : Nat} (P : zP d) : zK d := (xald 0 (xgfR 21 2 (xild 1 (xald1 0 (xpI 4294967295 (xjoin (bX5_isRegular_15 P) (fun j15 => (xcmp Nat.beq (xpI 0 j15) (xpI 1 j15)))))))))
set_option maxRecDepth 100000 in
set_option maxHeartbeats 4000000 in
theorem s_X5_isRegular {d : Nat} [zGh] (P : zP d) : zSim X_X5_isRegular 1 P 0 (b_X5_isRegular P) := by
  unfold b_X5_isRegular
  refine sm_aload_n (pc := 0) (n := 0) dX5_isRegular_0 rfl ?_
  refine gf_X5_24 (pc := 1) rfl dX5_isRegular_1 ?_
  refine sm_iload_n (pc := 4) (n := 1) dX5_isRegular_4 rfl ?_
  refine sm_iaload (pc := 5) dX5_isRegular_5 ?_
  refine sm_iconst (pc := 6) dX5_isRegular_6 zc_i_m1 ?_
  refine sm_join (pc := 7) (pc' := 15) (sbX5_isRegular_15 P) (fun j15 hj15 => ?_)
  refine sm_icmp_eq (pc := 7) (tgt := 14) dX5_isRegular_7 (by decide) ?_ ?_
  · skip
    refine sm_iconst (pc := 14) dX5_isRegular_14 zc_i_0 ?_
    exact hj15
  · skip
    refine sm_iconst (pc := 10) dX5_isRegular_10 zc_i_1 ?_
    refine sm_goto (pc := 11) (tgt := 15) dX5_isRegular_11 (by decide) ?_
    exact hj15
noncomputable def f_X5_isRegular {d : Nat} : List zV → zH d → zP d → Bool := zfn 2 b_X5_isRegular
theorem m_X5_isRegular {d : Nat} : zMet (d := d) X_X5_isRegular yX5_isRegular 1 f_X5_isRegular := zmet_mk (X := X_X5_isRegular) (by decide) rfl rfl s_X5_isRegular

abbrev X_X5_markRegular : zM := (RX5, cX5_markRegular, 7, none, "markRegular")
noncomputable def bX5_markRegular_142 {d : Nat} (P : zP d) (r2 : zK d) : zK d := (xast1 0 (fun v => v) (xald 0 (xdup (xgfI 21 3 (xild 3 (xcS 1 0 0 f_X8_bit (xbin zadd (xpfI 21 3 (xinc 1 1 r2)))))))))
set_option maxRecDepth 100000 in
set_option maxHeartbeats 4000000 in
theorem sbX5_markRegular_142 {d : Nat} [zGh] (P : zP d) (r2 : zK d) (hr2 : zSim X_X5_markRegular 2 P 2 r2) : zSim X_X5_markRegular 2 P 142 (bX5_markRegular_142 P r2) := by
  unfold bX5_markRegular_142
  refine sm_iastore (pc := 142) dX5_markRegular_142 ?_
  refine sm_aload_n (pc := 143) (n := 0) dX5_markRegular_143 rfl ?_
  refine sm_dup (pc := 144) dX5_markRegular_144 ?_
  refine gf_X5_89 (pc := 145) rfl dX5_markRegular_145 ?_
  refine sm_iload_n (pc := 148) (n := 3) dX5_markRegular_148 rfl ?_
  refine sm_cS (pc := 149) (n := 1) (mc := 0) (ms := 0) m_X8_bit (cr_X5_92 (X := X_X5_markRegular) (fr := 2) (frc := 1) (pc := 149) (mc := 0) (ms := 0) rfl (by decide) dX5_markRegular_149) ?_
  refine sm_iadd (pc := 152) dX5_markRegular_152 ?_
  refine pf_X5_89 (pc := 153) rfl dX5_markRegular_153 ?_
  refine sm_iinc (pc := 156) (n := 1) dX5_markRegular_156 zc_i_1 ?_
  refine sm_goto (pc := 159) (tgt := 2) dX5_markRegular_159 (by decide) ?_
  exact hr2
noncomputable def bX5_markRegular_108 {d : Nat} (P : zP d) (r37 : zK d) : zK d := (xbin zand (xist 4 (xinc 6 1 r37)))
set_option maxRecDepth 100000 in
set_option maxHeartbeats 4000000 in
theorem sbX5_markRegular_108 {d : Nat} [zGh] (P : zP d) (r37 : zK d) (hr37 : zSim X_X5_markRegular 2 P 37 r37) : zSim X_X5_markRegular 2 P 108 (bX5_markRegular_108 P r37) := by
  unfold bX5_markRegular_108
  refine sm_iand (pc := 108) dX5_markRegular_108 ?_
  refine sm_istore (pc := 109) (n := 4) dX5_markRegular_109 ?_
  refine sm_iinc (pc := 111) (n := 6) dX5_markRegular_111 zc_i_1 ?_
  refine sm_goto (pc := 114) (tgt := 37) dX5_markRegular_114 (by decide) ?_
  exact hr37
noncomputable def bX5_markRegular_87 {d : Nat} (P : zP d) (r37 : zK d) : zK d := (xbin zand (xist 3 (xild 4 (xald 2 (xild 6 (xald1 0 (xald 0 (xgfI 21 1 (xbinN zrem (xjoin (bX5_markRegular_108 P r37) (fun j108 => (xif0 t0eq (xpI 0 j108) (xpI 1 j108)))))))))))))
set_option maxRecDepth 100000 in
set_option maxHeartbeats 4000000 in
theorem sbX5_markRegular_87 {d : Nat} [zGh] (P : zP d) (r37 : zK d) (hr37 : zSim X_X5_markRegular 2 P 37 r37) : zSim X_X5_markRegular 2 P 87 (bX5_markRegular_87 P r37) := by
  unfold bX5_markRegular_87
  refine sm_iand (pc := 87) dX5_markRegular_87 ?_
  refine sm_istore_n (pc := 88) (n := 3) dX5_markRegular_88 rfl ?_
  refine sm_iload (pc := 89) (n := 4) dX5_markRegular_89 ?_
  refine sm_aload_n (pc := 91) (n := 2) dX5_markRegular_91 rfl ?_
  refine sm_iload (pc := 92) (n := 6) dX5_markRegular_92 ?_
  refine sm_iaload (pc := 94) dX5_markRegular_94 ?_
  refine sm_aload_n (pc := 95) (n := 0) dX5_markRegular_95 rfl ?_
  refine gf_X5_15 (pc := 96) rfl dX5_markRegular_96 ?_
  refine sm_irem (pc := 99) dX5_markRegular_99 ?_
  refine sm_join (pc := 100) (pc' := 108) (sbX5_markRegular_108 P r37 hr37) (fun j108 hj108 => ?_)
  refine sm_if_eq (pc := 100) (tgt := 107) dX5_markRegular_100 (by decide) ?_ ?_
  · skip
    refine sm_iconst (pc := 107) dX5_markRegular_107 zc_i_0 ?_
    exact hj108
  · skip
    refine sm_iconst (pc := 103) dX5_markRegular_103 zc_i_1 ?_
    refine sm_goto (pc := 104) (tgt := 108) dX5_markRegular_104 (by decide) ?_
    exact hj108
noncomputable def bX5_markRegular_70 {d : Nat} (P : zP d) (r37 : zK d) : zK d := (xist 5 (xild 3 (xild 5 (xald 0 (xgfI 21 1 (xjoin (bX5_markRegular_87 P r37) (fun j87 => (xcmp tge (xpI 0 j87) (xpI 1 j87)))))))))
set_option maxRecDepth 100000 in
set_option maxHeartbeats 4000000 in
theorem sbX5_markRegular_70 {d : Nat} [zGh] (P : zP d) (r37 : zK d) (hr37 : zSim X_X5_markRegular 2 P 37 r37) : zSim X_X5_markRegular 2 P 70 (bX5_markRegular_70 P r37) := by
  unfold bX5_markRegular_70
  refine sm_istore (pc := 70) (n := 5) dX5_markRegular_70 ?_
  refine sm_iload_n (pc := 72) (n := 3) dX5_markRegular_72 rfl ?_
  refine sm_iload (pc := 73) (n := 5) dX5_markRegular_73 ?_
  refine sm_aload_n (pc := 75) (n := 0) dX5_markRegular_75 rfl ?_
  refine gf_X5_15 (pc := 76) rfl dX5_markRegular_76 ?_
  refine sm_join (pc := 79) (pc' := 87) (sbX5_markRegular_87 P r37 hr37) (fun j87 hj87 => ?_)
  refine sm_icmp_ge (pc := 79) (tgt := 86) dX5_markRegular_79 (by decide) ?_ ?_
  · skip
    refine sm_iconst (pc := 86) dX5_markRegular_86 zc_i_0 ?_
    exact hj87
  · skip
    refine sm_iconst (pc := 82) dX5_markRegular_82 zc_i_1 ?_
    refine sm_goto (pc := 83) (tgt := 87) dX5_markRegular_83 (by decide) ?_
    exact hj87
noncomputable def bX5_markRegular_69 {d : Nat} (P : zP d) (j70 : zK d) : zK d := (xpI 1 j70)
set_option maxRecDepth 100000 in
set_option maxHeartbeats 4000000 in
theorem sbX5_markRegular_69 {d : Nat} [zGh] (P : zP d) (j70 : zK d) (hj70 : zSim X_X5_markRegular 2 P 70 j70) : zSim X_X5_markRegular 2 P 69 (bX5_markRegular_69 P j70) := by
  unfold bX5_markRegular_69
  refine sm_iconst (pc := 69) dX5_markRegular_69 zc_i_1 ?_
  exact hj70
noncomputable def lX5_markRegular_37 {d : Nat} (P : zP d) (r2 : zK d) (r37 : zK d) : zK d := (xild 6 (xald 2 (xlen (xcmp tge (xald 0 (xgfR 21 4 (xild 1 (xild 4 (xast1 1 (fun v => zand v 1) (xald 0 (xgfR 21 2 (xild 1 (xild 3 (xjoin (bX5_markRegular_142 P r2) (fun j142 => (xif0 t0eq (xpI 4294967295 j142) (xald 0 (xgfI 21 3 j142)))))))))))))) (xild 6 (xjoin (bX5_markRegular_70 P r37) (fun j70 => (xjoin (bX5_markRegular_69 P j70) (fun j69 => (xif0 t0le j69 (xald 2 (xild 6 (xpI 1 (xbin zsub (xald1 0 (xald 2 (xild 6 (xald1 0 (xcmp Nat.beq (xild 5 (xpI 1 (xbin zadd j70))) j69)))))))))))))))))))
set_option maxRecDepth 100000 in
set_option maxHeartbeats 4000000 in
theorem slX5_markRegular_37 {d : Nat} [zGh] (P : zP d) (r2 : zK d) (r37 : zK d) (hr2 : zSim X_X5_markRegular 2 P 2 r2) (hr37 : zSim X_X5_markRegular 2 P 37 r37) : zSim X_X5_markRegular 2 P 37 (lX5_markRegular_37 P r2 r37) := by
  unfold lX5_markRegular_37
  refine sm_iload (pc := 37) (n := 6) dX5_markRegular_37 ?_
  refine sm_aload_n (pc := 39) (n := 2) dX5_markRegular_39 rfl ?_
  refine sm_arraylength (pc := 40) dX5_markRegular_40 ?_
  refine sm_icmp_ge (pc := 41) (tgt := 117) dX5_markRegular_41 (by decide) ?_ ?_
  · skip
    refine sm_aload_n (pc := 117) (n := 0) dX5_markRegular_117 rfl ?_
    refine gf_X5_28 (pc := 118) rfl dX5_markRegular_118 ?_
    refine sm_iload_n (pc := 121) (n := 1) dX5_markRegular_121 rfl ?_
    refine sm_iload (pc := 122) (n := 4) dX5_markRegular_122 ?_
    refine sm_bastore (pc := 124) dX5_markRegular_124 ?_
    refine sm_aload_n (pc := 125) (n := 0) dX5_markRegular_125 rfl ?_
    refine gf_X5_24 (pc := 126) rfl dX5_markRegular_126 ?_
    refine sm_iload_n (pc := 129) (n := 1) dX5_markRegular_129 rfl ?_
    refine sm_iload_n (pc := 130) (n := 3) dX5_markRegular_130 rfl ?_
    refine sm_join (pc := 131) (pc' := 142) (sbX5_markRegular_142 P r2 hr2) (fun j142 hj142 => ?_)
    refine sm_if_eq (pc := 131) (tgt := 141) dX5_markRegular_131 (by decide) ?_ ?_
    · skip
      refine sm_iconst (pc := 141) dX5_markRegular_141 zc_i_m1 ?_
      exact hj142
    · skip
      refine sm_aload_n (pc := 134) (n := 0) dX5_markRegular_134 rfl ?_
      refine gf_X5_89 (pc := 135) rfl dX5_markRegular_135 ?_
      refine sm_goto (pc := 138) (tgt := 142) dX5_markRegular_138 (by decide) ?_
      exact hj142
  · skip
    refine sm_iload (pc := 44) (n := 6) dX5_markRegular_44 ?_
    refine sm_join (pc := 46) (pc' := 70) (sbX5_markRegular_70 P r37 hr37) (fun j70 hj70 => ?_)
    refine sm_join (pc := 46) (pc' := 69) (sbX5_markRegular_69 P j70 hj70) (fun j69 hj69 => ?_)
    refine sm_if_le (pc := 46) (tgt := 69) dX5_markRegular_46 (by decide) ?_ ?_
    · skip
      exact hj69
    · skip
      refine sm_aload_n (pc := 49) (n := 2) dX5_markRegular_49 rfl ?_
      refine sm_iload (pc := 50) (n := 6) dX5_markRegular_50 ?_
      refine sm_iconst (pc := 52) dX5_markRegular_52 zc_i_1 ?_
      refine sm_isub (pc := 53) dX5_markRegular_53 ?_
      refine sm_iaload (pc := 54) dX5_markRegular_54 ?_
      refine sm_aload_n (pc := 55) (n := 2) dX5_markRegular_55 rfl ?_
      refine sm_iload (pc := 56) (n := 6) dX5_markRegular_56 ?_
      refine sm_iaload (pc := 58) dX5_markRegular_58 ?_
      refine sm_icmp_ne (pc := 59) (tgt := 69) dX5_markRegular_59 (by decide) ?_ ?_
      · skip
        exact hj69
      · skip
        refine sm_iload (pc := 62) (n := 5) dX5_markRegular_62 ?_
        refine sm_iconst (pc := 64) dX5_markRegular_64 zc_i_1 ?_
        refine sm_iadd (pc := 65) dX5_markRegular_65 ?_
        refine sm_goto (pc := 66) (tgt := 70) dX5_markRegular_66 (by decide) ?_
        exact hj70
noncomputable def lX5_markRegular_2 {d : Nat} (P : zP d) (r2 : zK d) : zK d := (xild 1 (xald 0 (xgfR 21 0 (xgfI 23 1 (xcmp tge (xvret P) (xald 0 (xgfR 21 0 (xgfR 23 3 (xild 1 (xaal (xgfR 20 2 (xast 2 (xpI 1 (xist 3 (xpI 1 (xist 4 (xpI 0 (xist 5 (xpI 0 (xist 6 (xloop (fun r37 => (lX5_markRegular_37 P r2 r37)) 100000)))))))))))))))))))))
set_option maxRecDepth 100000 in
set_option maxHeartbeats 4000000 in
theorem slX5_markRegular_2 {d : Nat} [zGh] (P : zP d) (r2 : zK d) (hr2 : zSim X_X5_markRegular 2 P 2 r2) : zSim X_X5_markRegular 2 P 2 (lX5_markRegular_2 P r2) := by
  unfold lX5_markRegular_2
  refine sm_iload_n (pc := 2) (n := 1) dX5_markRegular_2 rfl ?_
  refine sm_aload_n (pc := 3) (n := 0) dX5_markRegular_3 rfl ?_
  refine gf_X5_9 (pc := 4) rfl dX5_markRegular_4 ?_
  refine gf_X5_19 (pc := 7) rfl dX5_markRegular_7 ?_
  refine sm_icmp_ge (pc := 10) (tgt := 162) dX5_markRegular_10 (by decide) ?_ ?_
  · skip
    exact sm_vreturn (pc := 162) dX5_markRegular_162 rfl
  · skip
    refine sm_aload_n (pc := 13) (n := 0) dX5_markRegular_13 rfl ?_
    refine gf_X5_9 (pc := 14) rfl dX5_markRegular_14 ?_
    refine gf_X5_80 (pc := 17) rfl dX5_markRegular_17 ?_
    refine sm_iload_n (pc := 20) (n := 1) dX5_markRegular_20 rfl ?_
    refine sm_aaload (pc := 21) dX5_markRegular_21 ?_
    refine gf_X5_84 (pc := 22) rfl dX5_markRegular_22 ?_
    refine sm_astore_n (pc := 25) (n := 2) dX5_markRegular_25 rfl ?_
    refine sm_iconst (pc := 26) dX5_markRegular_26 zc_i_1 ?_
    refine sm_istore_n (pc := 27) (n := 3) dX5_markRegular_27 rfl ?_
    refine sm_iconst (pc := 28) dX5_markRegular_28 zc_i_1 ?_
    refine sm_istore (pc := 29) (n := 4) dX5_markRegular_29 ?_
    refine sm_iconst (pc := 31) dX5_markRegular_31 zc_i_0 ?_
    refine sm_istore (pc := 32) (n := 5) dX5_markRegular_32 ?_
    refine sm_iconst (pc := 34) dX5_markRegular_34 zc_i_0 ?_
    refine sm_istore (pc := 35) (n := 6) dX5_markRegular_35 ?_
    exact sm_loop (fun r37 hr37 => slX5_markRegular_37 P r2 r37 hr2 hr37) _
noncomputable def b_X5_markRegular {d : Nat} (P : zP d) : zK d := (xpI 0 (xist 1 (xloop (fun r2 => (lX5_markRegular_2 P r2)) 100000)))
set_option maxRecDepth 100000 in
set_option maxHeartbeats 4000000 in
theorem s_X5_markRegular {d : Nat} [zGh] (P : zP d) : zSim X_X5_markRegular 2 P 0 (b_X5_markRegular P) := by
  unfold b_X5_markRegular
  refine sm_iconst (pc := 0) dX5_markRegular_0 zc_i_0 ?_
  refine sm_istore_n (pc := 1) (n := 1) dX5_markRegular_1 rfl ?_
  exact sm_loop (fun r2 hr2 => slX5_markRegular_2 P r2 hr2) _
noncomputable def f_X5_markRegular {d : Nat} : List zV → zH d → zP d → Bool := zfn 7 b_X5_markRegular
theorem m_X5_markRegular {d : Nat} : zMet (d := d) X_X5_markRegular yX5_markRegular 2 f_X5_markRegular := zmet_mk (X := X_X5_markRegular) (by decide) rfl rfl s_X5_markRegular

abbrev X_X5_rankOfDifference : zM := (RX5, cX5_rankOfDifference, 6, (some .int), "rankOfDifference")
noncomputable def bX5_rankOfDifference_58 {d : Nat} (P : zP d) (r15 : zK d) : zK d := (xcV 19 4 0 0 f_X3_set (xinc 5 1 r15))
set_option maxRecDepth 100000 in
set_option maxHeartbeats 4000000 in
theorem sbX5_rankOfDifference_58 {d : Nat} [zGh] (P : zP d) (r15 : zK d) (hr15 : zSim X_X5_rankOfDifference 3 P 15 r15) : zSim X_X5_rankOfDifference 3 P 58 (bX5_rankOfDifference_58 P r15) := by
  unfold bX5_rankOfDifference_58
  refine sm_cV (pc := 58) (ci := 3) (n := 4) (mc := 0) (ms := 0) rfl m_X3_set (cr_X5_132 (X := X_X5_rankOfDifference) (fr := 3) (frc := 1) (pc := 58) (mc := 0) (ms := 0) rfl (by decide) dX5_rankOfDifference_58) ?_
  refine sm_iinc (pc := 61) (n := 5) dX5_rankOfDifference_61 zc_i_1 ?_
  refine sm_goto (pc := 64) (tgt := 15) dX5_rankOfDifference_64 (by decide) ?_
  exact hr15
noncomputable def lX5_rankOfDifference_15 {d : Nat} (P : zP d) (r15 : zK d) (r3 : zK d) : zK d := (xild 5 (xald 0 (xgfI 20 5 (xcmp tge (xinc 4 1 r3) (xald 3 (xild 4 (xild 5 (xald 2 (xjoin (bX5_rankOfDifference_58 P r15) (fun j58 => (xnn (xald 1 (xild 4 (xaal (xild 5 (xald1 0 (xald 2 (xild 4 (xaal (xild 5 (xald1 0 (xbin zsub j58))))))))))) (xald 1 (xild 4 (xaal (xild 5 (xald1 0 j58))))))))))))))))
set_option maxRecDepth 100000 in
set_option maxHeartbeats 4000000 in
theorem slX5_rankOfDifference_15 {d : Nat} [zGh] (P : zP d) (r15 : zK d) (r3 : zK d) (hr15 : zSim X_X5_rankOfDifference 3 P 15 r15) (hr3 : zSim X_X5_rankOfDifference 3 P 3 r3) : zSim X_X5_rankOfDifference 3 P 15 (lX5_rankOfDifference_15 P r15 r3) := by
  unfold lX5_rankOfDifference_15
  refine sm_iload (pc := 15) (n := 5) dX5_rankOfDifference_15 ?_
  refine sm_aload_n (pc := 17) (n := 0) dX5_rankOfDifference_17 rfl ?_
  refine gf_X5_96 (pc := 18) rfl dX5_rankOfDifference_18 ?_
  refine sm_icmp_ge (pc := 21) (tgt := 67) dX5_rankOfDifference_21 (by decide) ?_ ?_
  · skip
    refine sm_iinc (pc := 67) (n := 4) dX5_rankOfDifference_67 zc_i_1 ?_
    refine sm_goto (pc := 70) (tgt := 3) dX5_rankOfDifference_70 (by decide) ?_
    exact hr3
  · skip
    refine sm_aload_n (pc := 24) (n := 3) dX5_rankOfDifference_24 rfl ?_
    refine sm_iload (pc := 25) (n := 4) dX5_rankOfDifference_25 ?_
    refine sm_iload (pc := 27) (n := 5) dX5_rankOfDifference_27 ?_
    refine sm_aload_n (pc := 29) (n := 2) dX5_rankOfDifference_29 rfl ?_
    refine sm_join (pc := 30) (pc' := 58) (sbX5_rankOfDifference_58 P r15 hr15) (fun j58 hj58 => ?_)
    refine sm_ifnonnull (pc := 30) (tgt := 43) dX5_rankOfDifference_30 (by decide) ?_ ?_
    · skip
      refine sm_aload_n (pc := 43) (n := 1) dX5_rankOfDifference_43 rfl ?_
      refine sm_iload (pc := 44) (n := 4) dX5_rankOfDifference_44 ?_
      refine sm_aaload (pc := 46) dX5_rankOfDifference_46 ?_
      refine sm_iload (pc := 47) (n := 5) dX5_rankOfDifference_47 ?_
      refine sm_iaload (pc := 49) dX5_rankOfDifference_49 ?_
      refine sm_aload_n (pc := 50) (n := 2) dX5_rankOfDifference_50 rfl ?_
      refine sm_iload (pc := 51) (n := 4) dX5_rankOfDifference_51 ?_
      refine sm_aaload (pc := 53) dX5_rankOfDifference_53 ?_
      refine sm_iload (pc := 54) (n := 5) dX5_rankOfDifference_54 ?_
      refine sm_iaload (pc := 56) dX5_rankOfDifference_56 ?_
      refine sm_isub (pc := 57) dX5_rankOfDifference_57 ?_
      exact hj58
    · skip
      refine sm_aload_n (pc := 33) (n := 1) dX5_rankOfDifference_33 rfl ?_
      refine sm_iload (pc := 34) (n := 4) dX5_rankOfDifference_34 ?_
      refine sm_aaload (pc := 36) dX5_rankOfDifference_36 ?_
      refine sm_iload (pc := 37) (n := 5) dX5_rankOfDifference_37 ?_
      refine sm_iaload (pc := 39) dX5_rankOfDifference_39 ?_
      refine sm_goto (pc := 40) (tgt := 58) dX5_rankOfDifference_40 (by decide) ?_
      exact hj58
noncomputable def lX5_rankOfDifference_3 {d : Nat} (P : zP d) (r3 : zK d) : zK d := (xild 4 (xald 0 (xgfI 20 5 (xcmp tge (xald 3 (xald 0 (xgfI 20 5 (xald 0 (xgfI 20 5 (xald 0 (xgfI 20 5 (xcV 19 4 0 0 f_X3_reduce (xiret P))))))))) (xpI 0 (xist 5 (xloop (fun r15 => (lX5_rankOfDifference_15 P r15 r3)) 100000)))))))
set_option maxRecDepth 100000 in
set_option maxHeartbeats 4000000 in
theorem slX5_rankOfDifference_3 {d : Nat} [zGh] (P : zP d) (r3 : zK d) (hr3 : zSim X_X5_rankOfDifference 3 P 3 r3) : zSim X_X5_rankOfDifference 3 P 3 (lX5_rankOfDifference_3 P r3) := by
  unfold lX5_rankOfDifference_3
  refine sm_iload (pc := 3) (n := 4) dX5_rankOfDifference_3 ?_
  refine sm_aload_n (pc := 5) (n := 0) dX5_rankOfDifference_5 rfl ?_
  refine gf_X5_96 (pc := 6) rfl dX5_rankOfDifference_6 ?_
  refine sm_icmp_ge (pc := 9) (tgt := 73) dX5_rankOfDifference_9 (by decide) ?_ ?_
  · skip
    refine sm_aload_n (pc := 73) (n := 3) dX5_rankOfDifference_73 rfl ?_
    refine sm_aload_n (pc := 74) (n := 0) dX5_rankOfDifference_74 rfl ?_
    refine gf_X5_96 (pc := 75) rfl dX5_rankOfDifference_75 ?_
    refine sm_aload_n (pc := 78) (n := 0) dX5_rankOfDifference_78 rfl ?_
    refine gf_X5_96 (pc := 79) rfl dX5_rankOfDifference_79 ?_
    refine sm_aload_n (pc := 82) (n := 0) dX5_rankOfDifference_82 rfl ?_
    refine gf_X5_96 (pc := 83) rfl dX5_rankOfDifference_83 ?_
    refine sm_cV (pc := 86) (ci := 3) (n := 4) (mc := 0) (ms := 0) rfl m_X3_reduce (cr_X5_135 (X := X_X5_rankOfDifference) (fr := 3) (frc := 2) (pc := 86) (mc := 0) (ms := 0) rfl (by decide) dX5_rankOfDifference_86) ?_
    exact sm_ireturn (pc := 89) dX5_rankOfDifference_89 rfl
  · skip
    refine sm_iconst (pc := 12) dX5_rankOfDifference_12 zc_i_0 ?_
    refine sm_istore (pc := 13) (n := 5) dX5_rankOfDifference_13 ?_
    exact sm_loop (fun r15 hr15 => slX5_rankOfDifference_15 P r15 r3 hr15 hr3) _
noncomputable def b_X5_rankOfDifference {d : Nat} (P : zP d) : zK d := (xpI 0 (xist 4 (xloop (fun r3 => (lX5_rankOfDifference_3 P r3)) 100000)))
set_option maxRecDepth 100000 in
set_option maxHeartbeats 4000000 in
theorem s_X5_rankOfDifference {d : Nat} [zGh] (P : zP d) : zSim X_X5_rankOfDifference 3 P 0 (b_X5_rankOfDifference P) := by
  unfold b_X5_rankOfDifference
  refine sm_iconst (pc := 0) dX5_rankOfDifference_0 zc_i_0 ?_
  refine sm_istore (pc := 1) (n := 4) dX5_rankOfDifference_1 ?_
  exact sm_loop (fun r3 hr3 => slX5_rankOfDifference_3 P r3 hr3) _
noncomputable def f_X5_rankOfDifference {d : Nat} : List zV → zH d → zP d → Bool := zfn 6 b_X5_rankOfDifference
theorem m_X5_rankOfDifference {d : Nat} : zMet (d := d) X_X5_rankOfDifference yX5_rankOfDifference 3 f_X5_rankOfDifference := zmet_mk (X := X_X5_rankOfDifference) (by decide) rfl rfl s_X5_rankOfDifference

abbrev X_X5_makeFixed : zM := (RX5, cX5_makeFixed, 7, none, "makeFixed")
noncomputable def bX5_makeFixed_83 {d : Nat} (P : zP d) (r14 : zK d) : zK d := (xinc 6 1 r14)
set_option maxRecDepth 100000 in
set_option maxHeartbeats 4000000 in
theorem sbX5_makeFixed_83 {d : Nat} [zGh] (P : zP d) (r14 : zK d) (hr14 : zSim X_X5_makeFixed 4 P 14 r14) : zSim X_X5_makeFixed 4 P 83 (bX5_makeFixed_83 P r14) := by
  unfold bX5_makeFixed_83
  refine sm_iinc (pc := 83) (n := 6) dX5_makeFixed_83 zc_i_1 ?_
  refine sm_goto (pc := 86) (tgt := 14) dX5_makeFixed_86 (by decide) ?_
  exact hr14
noncomputable def cX5_makeFixed_64 {d : Nat} (P : zP d) (j83 : zK d) : zK d := (xgfR 21 5 (xild 1 (xald1 0 (xald 5 (xald 2 (xald 5 (xgfR 20 7 (xald 3 (xcS 4 0 0 f_X5_rankOfDifference (xbin zsub (xast1 0 (fun v => v) j83)))))))))))
set_option maxRecDepth 100000 in
set_option maxHeartbeats 4000000 in
theorem scX5_makeFixed_64 {d : Nat} [zGh] (P : zP d) (j83 : zK d) (hj83 : zSim X_X5_makeFixed 4 P 83 j83) : zSim X_X5_makeFixed 4 P 64 (cX5_makeFixed_64 P j83) := by
  unfold cX5_makeFixed_64
  refine gf_X5_35 (pc := 64) rfl dX5_makeFixed_64 ?_
  refine sm_iload_n (pc := 67) (n := 1) dX5_makeFixed_67 rfl ?_
  refine sm_iaload (pc := 68) dX5_makeFixed_68 ?_
  refine sm_aload (pc := 69) (n := 5) dX5_makeFixed_69 ?_
  refine sm_aload_n (pc := 71) (n := 2) dX5_makeFixed_71 rfl ?_
  refine sm_aload (pc := 72) (n := 5) dX5_makeFixed_72 ?_
  refine gf_X5_110 (pc := 74) rfl dX5_makeFixed_74 ?_
  refine sm_aload_n (pc := 77) (n := 3) dX5_makeFixed_77 rfl ?_
  refine sm_cS (pc := 78) (n := 4) (mc := 0) (ms := 0) m_X5_rankOfDifference (cr_X5_113 (X := X_X5_makeFixed) (fr := 4) (frc := 3) (pc := 78) (mc := 0) (ms := 0) rfl (by decide) dX5_makeFixed_78) ?_
  refine sm_isub (pc := 81) dX5_makeFixed_81 ?_
  refine sm_iastore (pc := 82) dX5_makeFixed_82 ?_
  exact hj83
noncomputable def lX5_makeFixed_14 {d : Nat} (P : zP d) (r14 : zK d) : zK d := (xild 6 (xald 0 (xgfR 21 0 (xgfI 23 1 (xcmp tge (xvret P) (xald 0 (xgfR 21 4 (xild 6 (xald1 1 (xjoin (bX5_makeFixed_83 P r14) (fun j83 => (xif0 t0eq j83 (xald 5 (xald 0 (xgfR 21 0 (xgfR 23 10 (xild 6 (xaal (xald 0 (xgfR 21 0 (xgfR 23 13 (xald 2 (xcV 20 4 0 0 f_X4_makeMovedForms (xald 4 (xild 6 (xald 0 (cX5_makeFixed_64 P j83)))))))))))))))))))))))))))
set_option maxRecDepth 100000 in
set_option maxHeartbeats 4000000 in
theorem slX5_makeFixed_14 {d : Nat} [zGh] (P : zP d) (r14 : zK d) (hr14 : zSim X_X5_makeFixed 4 P 14 r14) : zSim X_X5_makeFixed 4 P 14 (lX5_makeFixed_14 P r14) := by
  unfold lX5_makeFixed_14
  refine sm_iload (pc := 14) (n := 6) dX5_makeFixed_14 ?_
  refine sm_aload_n (pc := 16) (n := 0) dX5_makeFixed_16 rfl ?_
  refine gf_X5_9 (pc := 17) rfl dX5_makeFixed_17 ?_
  refine gf_X5_19 (pc := 20) rfl dX5_makeFixed_20 ?_
  refine sm_icmp_ge (pc := 23) (tgt := 89) dX5_makeFixed_23 (by decide) ?_ ?_
  · skip
    exact sm_vreturn (pc := 89) dX5_makeFixed_89 rfl
  · skip
    refine sm_aload_n (pc := 26) (n := 0) dX5_makeFixed_26 rfl ?_
    refine gf_X5_28 (pc := 27) rfl dX5_makeFixed_27 ?_
    refine sm_iload (pc := 30) (n := 6) dX5_makeFixed_30 ?_
    refine sm_baload (pc := 32) dX5_makeFixed_32 ?_
    refine sm_join (pc := 33) (pc' := 83) (sbX5_makeFixed_83 P r14 hr14) (fun j83 hj83 => ?_)
    refine sm_if_eq (pc := 33) (tgt := 83) dX5_makeFixed_33 (by decide) ?_ ?_
    · skip
      exact hj83
    · skip
      refine sm_aload (pc := 36) (n := 5) dX5_makeFixed_36 ?_
      refine sm_aload_n (pc := 38) (n := 0) dX5_makeFixed_38 rfl ?_
      refine gf_X5_9 (pc := 39) rfl dX5_makeFixed_39 ?_
      refine gf_X5_139 (pc := 42) rfl dX5_makeFixed_42 ?_
      refine sm_iload (pc := 45) (n := 6) dX5_makeFixed_45 ?_
      refine sm_aaload (pc := 47) dX5_makeFixed_47 ?_
      refine sm_aload_n (pc := 48) (n := 0) dX5_makeFixed_48 rfl ?_
      refine gf_X5_9 (pc := 49) rfl dX5_makeFixed_49 ?_
      refine gf_X5_142 (pc := 52) rfl dX5_makeFixed_52 ?_
      refine sm_aload_n (pc := 55) (n := 2) dX5_makeFixed_55 rfl ?_
      refine sm_cV (pc := 56) (ci := 4) (n := 4) (mc := 0) (ms := 0) rfl m_X4_makeMovedForms (cr_X5_145 (X := X_X5_makeFixed) (fr := 4) (frc := 2) (pc := 56) (mc := 0) (ms := 0) rfl (by decide) dX5_makeFixed_56) ?_
      refine sm_aload (pc := 59) (n := 4) dX5_makeFixed_59 ?_
      refine sm_iload (pc := 61) (n := 6) dX5_makeFixed_61 ?_
      refine sm_aload_n (pc := 63) (n := 0) dX5_makeFixed_63 rfl ?_
      exact scX5_makeFixed_64 P j83 hj83
noncomputable def b_X5_makeFixed {d : Nat} (P : zP d) : zK d := (xald 0 (xgfR 21 0 (xgfR 23 3 (xild 1 (xaal (xast 5 (xpI 0 (xist 6 (xloop (fun r14 => (lX5_makeFixed_14 P r14)) 100000)))))))))
set_option maxRecDepth 100000 in
set_option maxHeartbeats 4000000 in
theorem s_X5_makeFixed {d : Nat} [zGh] (P : zP d) : zSim X_X5_makeFixed 4 P 0 (b_X5_makeFixed P) := by
  unfold b_X5_makeFixed
  refine sm_aload_n (pc := 0) (n := 0) dX5_makeFixed_0 rfl ?_
  refine gf_X5_9 (pc := 1) rfl dX5_makeFixed_1 ?_
  refine gf_X5_80 (pc := 4) rfl dX5_makeFixed_4 ?_
  refine sm_iload_n (pc := 7) (n := 1) dX5_makeFixed_7 rfl ?_
  refine sm_aaload (pc := 8) dX5_makeFixed_8 ?_
  refine sm_astore (pc := 9) (n := 5) dX5_makeFixed_9 ?_
  refine sm_iconst (pc := 11) dX5_makeFixed_11 zc_i_0 ?_
  refine sm_istore (pc := 12) (n := 6) dX5_makeFixed_12 ?_
  exact sm_loop (fun r14 hr14 => slX5_makeFixed_14 P r14 hr14) _
noncomputable def f_X5_makeFixed {d : Nat} : List zV → zH d → zP d → Bool := zfn 7 b_X5_makeFixed
theorem m_X5_makeFixed {d : Nat} : zMet (d := d) X_X5_makeFixed yX5_makeFixed 4 f_X5_makeFixed := zmet_mk (X := X_X5_makeFixed) (by decide) rfl rfl s_X5_makeFixed

abbrev X_X5_dimensionsOfOrder : zM := (RX5, cX5_dimensionsOfOrder, 6, (some .int), "dimensionsOfOrder")
noncomputable def bX5_dimensionsOfOrder_47 {d : Nat} (P : zP d) (r6 : zK d) : zK d := (xinc 5 1 r6)
set_option maxRecDepth 100000 in
set_option maxHeartbeats 4000000 in
theorem sbX5_dimensionsOfOrder_47 {d : Nat} [zGh] (P : zP d) (r6 : zK d) (hr6 : zSim X_X5_dimensionsOfOrder 1 P 6 r6) : zSim X_X5_dimensionsOfOrder 1 P 47 (bX5_dimensionsOfOrder_47 P r6) := by
  unfold bX5_dimensionsOfOrder_47
  refine sm_iinc (pc := 47) (n := 5) dX5_dimensionsOfOrder_47 zc_i_1 ?_
  refine sm_goto (pc := 50) (tgt := 6) dX5_dimensionsOfOrder_50 (by decide) ?_
  exact hr6
noncomputable def lX5_dimensionsOfOrder_6 {d : Nat} (P : zP d) (r6 : zK d) : zK d := (xild 5 (xild 2 (xcmp tle (xild 2 (xild 5 (xbinN zrem (xjoin (bX5_dimensionsOfOrder_47 P r6) (fun j47 => (xif0 t0eq (xild 4 (xst2 ztb2 2 5 (xald 3 (xald 0 (xgfR 21 0 (xgfR 23 9 (xild 1 (xaal (xild 5 (xald1 0 (xald1 0 (xbin zmul (xbin zadd (xist 4 j47)))))))))))))) j47)))))) (xild 4 (xiret P)))))
set_option maxRecDepth 100000 in
set_option maxHeartbeats 4000000 in
theorem slX5_dimensionsOfOrder_6 {d : Nat} [zGh] (P : zP d) (r6 : zK d) (hr6 : zSim X_X5_dimensionsOfOrder 1 P 6 r6) : zSim X_X5_dimensionsOfOrder 1 P 6 (lX5_dimensionsOfOrder_6 P r6) := by
  unfold lX5_dimensionsOfOrder_6
  refine sm_iload (pc := 6) (n := 5) dX5_dimensionsOfOrder_6 ?_
  refine sm_iload_n (pc := 8) (n := 2) dX5_dimensionsOfOrder_8 rfl ?_
  refine sm_icmp_gt (pc := 9) (tgt := 53) dX5_dimensionsOfOrder_9 (by decide) ?_ ?_
  · skip
    refine sm_iload (pc := 53) (n := 4) dX5_dimensionsOfOrder_53 ?_
    exact sm_ireturn (pc := 55) dX5_dimensionsOfOrder_55 rfl
  · skip
    refine sm_iload_n (pc := 12) (n := 2) dX5_dimensionsOfOrder_12 rfl ?_
    refine sm_iload (pc := 13) (n := 5) dX5_dimensionsOfOrder_13 ?_
    refine sm_irem (pc := 15) dX5_dimensionsOfOrder_15 ?_
    refine sm_join (pc := 16) (pc' := 47) (sbX5_dimensionsOfOrder_47 P r6 hr6) (fun j47 hj47 => ?_)
    refine sm_if_ne (pc := 16) (tgt := 47) dX5_dimensionsOfOrder_16 (by decide) ?_ ?_
    · skip
      exact hj47
    · skip
      refine sm_iload (pc := 19) (n := 4) dX5_dimensionsOfOrder_19 ?_
      refine sm_st2 (pc := 21) (C := RX5) (nm := "ROOT_SUM") (tb := ztb2) (n1 := 2) (n2 := 5) rfl (fun _ _ h => h.2.1) wd_406 dX5_dimensionsOfOrder_21 dX5_dimensionsOfOrder_24 rfl dX5_dimensionsOfOrder_25 dX5_dimensionsOfOrder_27 dX5_dimensionsOfOrder_28 ?_
      refine sm_aload_n (pc := 29) (n := 3) dX5_dimensionsOfOrder_29 rfl ?_
      refine sm_aload_n (pc := 30) (n := 0) dX5_dimensionsOfOrder_30 rfl ?_
      refine gf_X5_9 (pc := 31) rfl dX5_dimensionsOfOrder_31 ?_
      refine gf_X5_162 (pc := 34) rfl dX5_dimensionsOfOrder_34 ?_
      refine sm_iload_n (pc := 37) (n := 1) dX5_dimensionsOfOrder_37 rfl ?_
      refine sm_aaload (pc := 38) dX5_dimensionsOfOrder_38 ?_
      refine sm_iload (pc := 39) (n := 5) dX5_dimensionsOfOrder_39 ?_
      refine sm_iaload (pc := 41) dX5_dimensionsOfOrder_41 ?_
      refine sm_iaload (pc := 42) dX5_dimensionsOfOrder_42 ?_
      refine sm_imul (pc := 43) dX5_dimensionsOfOrder_43 ?_
      refine sm_iadd (pc := 44) dX5_dimensionsOfOrder_44 ?_
      refine sm_istore (pc := 45) (n := 4) dX5_dimensionsOfOrder_45 ?_
      exact hj47
noncomputable def b_X5_dimensionsOfOrder {d : Nat} (P : zP d) : zK d := (xpI 0 (xist 4 (xpI 1 (xist 5 (xloop (fun r6 => (lX5_dimensionsOfOrder_6 P r6)) 100000)))))
set_option maxRecDepth 100000 in
set_option maxHeartbeats 4000000 in
theorem s_X5_dimensionsOfOrder {d : Nat} [zGh] (P : zP d) : zSim X_X5_dimensionsOfOrder 1 P 0 (b_X5_dimensionsOfOrder P) := by
  unfold b_X5_dimensionsOfOrder
  refine sm_iconst (pc := 0) dX5_dimensionsOfOrder_0 zc_i_0 ?_
  refine sm_istore (pc := 1) (n := 4) dX5_dimensionsOfOrder_1 ?_
  refine sm_iconst (pc := 3) dX5_dimensionsOfOrder_3 zc_i_1 ?_
  refine sm_istore (pc := 4) (n := 5) dX5_dimensionsOfOrder_4 ?_
  exact sm_loop (fun r6 hr6 => slX5_dimensionsOfOrder_6 P r6 hr6) _
noncomputable def f_X5_dimensionsOfOrder {d : Nat} : List zV → zH d → zP d → Bool := zfn 6 b_X5_dimensionsOfOrder
theorem m_X5_dimensionsOfOrder {d : Nat} : zMet (d := d) X_X5_dimensionsOfOrder yX5_dimensionsOfOrder 1 f_X5_dimensionsOfOrder := zmet_mk (X := X_X5_dimensionsOfOrder) (by decide) rfl rfl s_X5_dimensionsOfOrder

abbrev X_X5_sumOfRoots : zM := (RX5, cX5_sumOfRoots, 6, (some .int), "sumOfRoots")
noncomputable def bX5_sumOfRoots_71 {d : Nat} (P : zP d) : zK d := (xild 4 (xiret P))
set_option maxRecDepth 100000 in
set_option maxHeartbeats 4000000 in
theorem sbX5_sumOfRoots_71 {d : Nat} [zGh] (P : zP d) : zSim X_X5_sumOfRoots 2 P 71 (bX5_sumOfRoots_71 P) := by
  unfold bX5_sumOfRoots_71
  refine sm_iload (pc := 71) (n := 4) dX5_sumOfRoots_71 ?_
  exact sm_ireturn (pc := 73) dX5_sumOfRoots_73 rfl
noncomputable def bX5_sumOfRoots_65 {d : Nat} (P : zP d) (r16 : zK d) : zK d := (xinc 5 1 r16)
set_option maxRecDepth 100000 in
set_option maxHeartbeats 4000000 in
theorem sbX5_sumOfRoots_65 {d : Nat} [zGh] (P : zP d) (r16 : zK d) (hr16 : zSim X_X5_sumOfRoots 2 P 16 r16) : zSim X_X5_sumOfRoots 2 P 65 (bX5_sumOfRoots_65 P r16) := by
  unfold bX5_sumOfRoots_65
  refine sm_iinc (pc := 65) (n := 5) dX5_sumOfRoots_65 zc_i_1 ?_
  refine sm_goto (pc := 68) (tgt := 16) dX5_sumOfRoots_68 (by decide) ?_
  exact hr16
noncomputable def lX5_sumOfRoots_16 {d : Nat} (P : zP d) (r16 : zK d) : zK d := (xild 5 (xild 3 (xjoin (bX5_sumOfRoots_71 P) (fun j71 => (xcmp tle (xild 5 (xpI 7 (xcmp tge j71 (xild 3 (xild 5 (xbinN zrem (xjoin (bX5_sumOfRoots_65 P r16) (fun j65 => (xif0 t0eq (xild 4 (xald 0 (xild 1 (xild 5 (xald 2 (xcV 21 4 0 0 f_X5_dimensionsOfOrder (xst ztb3 5 (xbinN zdiv (xst ztb2 5 (xbin zmul (xbin zadd (xist 4 j65)))))))))))) j65))))))))) j71)))))
set_option maxRecDepth 100000 in
set_option maxHeartbeats 4000000 in
theorem slX5_sumOfRoots_16 {d : Nat} [zGh] (P : zP d) (r16 : zK d) (hr16 : zSim X_X5_sumOfRoots 2 P 16 r16) : zSim X_X5_sumOfRoots 2 P 16 (lX5_sumOfRoots_16 P r16) := by
  unfold lX5_sumOfRoots_16
  refine sm_iload (pc := 16) (n := 5) dX5_sumOfRoots_16 ?_
  refine sm_iload_n (pc := 18) (n := 3) dX5_sumOfRoots_18 rfl ?_
  refine sm_join (pc := 19) (pc' := 71) (sbX5_sumOfRoots_71 P) (fun j71 hj71 => ?_)
  refine sm_icmp_gt (pc := 19) (tgt := 71) dX5_sumOfRoots_19 (by decide) ?_ ?_
  · skip
    exact hj71
  · skip
    refine sm_iload (pc := 22) (n := 5) dX5_sumOfRoots_22 ?_
    refine sm_stlen (pc := 24) (C := RX5) (nm := "ROOT_COUNT") (tb := ztb3) (fun _ _ h => h.2.2) wd_400 dX5_sumOfRoots_24 dX5_sumOfRoots_27 ?_
    refine sm_icmp_ge (pc := 28) (tgt := 71) dX5_sumOfRoots_28 (by decide) ?_ ?_
    · skip
      exact hj71
    · skip
      refine sm_iload_n (pc := 31) (n := 3) dX5_sumOfRoots_31 rfl ?_
      refine sm_iload (pc := 32) (n := 5) dX5_sumOfRoots_32 ?_
      refine sm_irem (pc := 34) dX5_sumOfRoots_34 ?_
      refine sm_join (pc := 35) (pc' := 65) (sbX5_sumOfRoots_65 P r16 hr16) (fun j65 hj65 => ?_)
      refine sm_if_ne (pc := 35) (tgt := 65) dX5_sumOfRoots_35 (by decide) ?_ ?_
      · skip
        exact hj65
      · skip
        refine sm_iload (pc := 38) (n := 4) dX5_sumOfRoots_38 ?_
        refine sm_aload_n (pc := 40) (n := 0) dX5_sumOfRoots_40 rfl ?_
        refine sm_iload_n (pc := 41) (n := 1) dX5_sumOfRoots_41 rfl ?_
        refine sm_iload (pc := 42) (n := 5) dX5_sumOfRoots_42 ?_
        refine sm_aload_n (pc := 44) (n := 2) dX5_sumOfRoots_44 rfl ?_
        refine sm_cV (pc := 45) (ci := 5) (n := 4) (mc := 0) (ms := 0) rfl m_X5_dimensionsOfOrder (cr_X5_155 (X := X_X5_sumOfRoots) (fr := 2) (frc := 1) (pc := 45) (mc := 0) (ms := 0) rfl (by decide) dX5_sumOfRoots_45) ?_
        refine sm_st (pc := 48) (C := RX5) (nm := "ROOT_COUNT") (tb := ztb3) (n := 5) (l2 := 2) rfl (fun _ _ h => h.2.2) wd_400 dX5_sumOfRoots_48 (fun hx hb hl kk => lv_iload hx hb dX5_sumOfRoots_51 hl kk) dX5_sumOfRoots_53 ?_
        refine sm_idiv (pc := 54) dX5_sumOfRoots_54 ?_
        refine sm_st (pc := 55) (C := RX5) (nm := "ROOT_SUM") (tb := ztb2) (n := 5) (l2 := 2) rfl (fun _ _ h => h.2.1) wd_406 dX5_sumOfRoots_55 (fun hx hb hl kk => lv_iload hx hb dX5_sumOfRoots_58 hl kk) dX5_sumOfRoots_60 ?_
        refine sm_imul (pc := 61) dX5_sumOfRoots_61 ?_
        refine sm_iadd (pc := 62) dX5_sumOfRoots_62 ?_
        refine sm_istore (pc := 63) (n := 4) dX5_sumOfRoots_63 ?_
        exact hj65
noncomputable def b_X5_sumOfRoots {d : Nat} (P : zP d) : zK d := (xald 0 (xgfR 21 0 (xgfR 23 6 (xild 1 (xald1 0 (xist 3 (xpI 0 (xist 4 (xpI 1 (xist 5 (xloop (fun r16 => (lX5_sumOfRoots_16 P r16)) 100000)))))))))))
set_option maxRecDepth 100000 in
set_option maxHeartbeats 4000000 in
theorem s_X5_sumOfRoots {d : Nat} [zGh] (P : zP d) : zSim X_X5_sumOfRoots 2 P 0 (b_X5_sumOfRoots P) := by
  unfold b_X5_sumOfRoots
  refine sm_aload_n (pc := 0) (n := 0) dX5_sumOfRoots_0 rfl ?_
  refine gf_X5_9 (pc := 1) rfl dX5_sumOfRoots_1 ?_
  refine gf_X5_149 (pc := 4) rfl dX5_sumOfRoots_4 ?_
  refine sm_iload_n (pc := 7) (n := 1) dX5_sumOfRoots_7 rfl ?_
  refine sm_iaload (pc := 8) dX5_sumOfRoots_8 ?_
  refine sm_istore_n (pc := 9) (n := 3) dX5_sumOfRoots_9 rfl ?_
  refine sm_iconst (pc := 10) dX5_sumOfRoots_10 zc_i_0 ?_
  refine sm_istore (pc := 11) (n := 4) dX5_sumOfRoots_11 ?_
  refine sm_iconst (pc := 13) dX5_sumOfRoots_13 zc_i_1 ?_
  refine sm_istore (pc := 14) (n := 5) dX5_sumOfRoots_14 ?_
  exact sm_loop (fun r16 hr16 => slX5_sumOfRoots_16 P r16 hr16) _
noncomputable def f_X5_sumOfRoots {d : Nat} : List zV → zH d → zP d → Bool := zfn 6 b_X5_sumOfRoots
theorem m_X5_sumOfRoots {d : Nat} : zMet (d := d) X_X5_sumOfRoots yX5_sumOfRoots 2 f_X5_sumOfRoots := zmet_mk (X := X_X5_sumOfRoots) (by decide) rfl rfl s_X5_sumOfRoots

abbrev X_X5_makeModulars : zM := (RX5, cX5_makeModulars, 8, none, "makeModulars")
noncomputable def bX5_makeModulars_233 {d : Nat} (P : zP d) (r73 : zK d) : zK d := (xinc 5 1 r73)
set_option maxRecDepth 100000 in
set_option maxHeartbeats 4000000 in
theorem sbX5_makeModulars_233 {d : Nat} [zGh] (P : zP d) (r73 : zK d) (hr73 : zSim X_X5_makeModulars 5 P 73 r73) : zSim X_X5_makeModulars 5 P 233 (bX5_makeModulars_233 P r73) := by
  unfold bX5_makeModulars_233
  refine sm_iinc (pc := 233) (n := 5) dX5_makeModulars_233 zc_i_1 ?_
  refine sm_goto (pc := 236) (tgt := 73) dX5_makeModulars_236 (by decide) ?_
  exact hr73
noncomputable def bX5_makeModulars_227 {d : Nat} (P : zP d) (r156 : zK d) : zK d := (xinc 7 1 r156)
set_option maxRecDepth 100000 in
set_option maxHeartbeats 4000000 in
theorem sbX5_makeModulars_227 {d : Nat} [zGh] (P : zP d) (r156 : zK d) (hr156 : zSim X_X5_makeModulars 5 P 156 r156) : zSim X_X5_makeModulars 5 P 227 (bX5_makeModulars_227 P r156) := by
  unfold bX5_makeModulars_227
  refine sm_iinc (pc := 227) (n := 7) dX5_makeModulars_227 zc_i_1 ?_
  refine sm_goto (pc := 230) (tgt := 156) dX5_makeModulars_230 (by decide) ?_
  exact hr156
noncomputable def bX5_makeModulars_226 {d : Nat} (P : zP d) (j227 : zK d) : zK d := (xast1 0 (fun v => v) j227)
set_option maxRecDepth 100000 in
set_option maxHeartbeats 4000000 in
theorem sbX5_makeModulars_226 {d : Nat} [zGh] (P : zP d) (j227 : zK d) (hj227 : zSim X_X5_makeModulars 5 P 227 j227) : zSim X_X5_makeModulars 5 P 226 (bX5_makeModulars_226 P j227) := by
  unfold bX5_makeModulars_226
  refine sm_iastore (pc := 226) dX5_makeModulars_226 ?_
  exact hj227
noncomputable def cX5_makeModulars_217 {d : Nat} (P : zP d) (j226 : zK d) : zK d := (xgfR 23 12 (xild 5 (xaal (xild 7 (xald1 0 j226)))))
set_option maxRecDepth 100000 in
set_option maxHeartbeats 4000000 in
theorem scX5_makeModulars_217 {d : Nat} [zGh] (P : zP d) (j226 : zK d) (hj226 : zSim X_X5_makeModulars 5 P 226 j226) : zSim X_X5_makeModulars 5 P 217 (cX5_makeModulars_217 P j226) := by
  unfold cX5_makeModulars_217
  refine gf_X5_129 (pc := 217) rfl dX5_makeModulars_217 ?_
  refine sm_iload (pc := 220) (n := 5) dX5_makeModulars_220 ?_
  refine sm_aaload (pc := 222) dX5_makeModulars_222 ?_
  refine sm_iload (pc := 223) (n := 7) dX5_makeModulars_223 ?_
  refine sm_iaload (pc := 225) dX5_makeModulars_225 ?_
  exact hj226
noncomputable def cX5_makeModulars_205 {d : Nat} (P : zP d) (j226 : zK d) : zK d := (xald 4 (xcV 21 3 0 0 f_X5_sumOfRoots j226))
set_option maxRecDepth 100000 in
set_option maxHeartbeats 4000000 in
theorem scX5_makeModulars_205 {d : Nat} [zGh] (P : zP d) (j226 : zK d) (hj226 : zSim X_X5_makeModulars 5 P 226 j226) : zSim X_X5_makeModulars 5 P 205 (cX5_makeModulars_205 P j226) := by
  unfold cX5_makeModulars_205
  refine sm_aload (pc := 205) (n := 4) dX5_makeModulars_205 ?_
  refine sm_cV (pc := 207) (ci := 5) (n := 3) (mc := 0) (ms := 0) rfl m_X5_sumOfRoots (cr_X5_125 (X := X_X5_makeModulars) (fr := 5) (frc := 2) (pc := 207) (mc := 0) (ms := 0) rfl (by decide) dX5_makeModulars_207) ?_
  refine sm_goto (pc := 210) (tgt := 226) dX5_makeModulars_210 (by decide) ?_
  exact hj226
noncomputable def lX5_makeModulars_156 {d : Nat} (P : zP d) (j233 : zK d) (r156 : zK d) : zK d := (xild 7 (xald 0 (xgfR 21 0 (xgfI 23 1 (xcmp tge j233 (xald 0 (xgfR 21 4 (xild 7 (xald1 1 (xjoin (bX5_makeModulars_227 P r156) (fun j227 => (xif0 t0eq j227 (xald 0 (xgfR 21 6 (xild 5 (xaal (xild 7 (xald 0 (xgfR 21 5 (xild 5 (xald1 0 (xald 6 (xgfI 20 5 (xjoin (bX5_makeModulars_226 P j227) (fun j226 => (xcmp tge (xald 0 (xgfR 21 0 (cX5_makeModulars_217 P j226))) (xald 0 (xild 7 (cX5_makeModulars_205 P j226)))))))))))))))))))))))))))))
set_option maxRecDepth 100000 in
set_option maxHeartbeats 4000000 in
theorem slX5_makeModulars_156 {d : Nat} [zGh] (P : zP d) (j233 : zK d) (r156 : zK d) (hj233 : zSim X_X5_makeModulars 5 P 233 j233) (hr156 : zSim X_X5_makeModulars 5 P 156 r156) : zSim X_X5_makeModulars 5 P 156 (lX5_makeModulars_156 P j233 r156) := by
  unfold lX5_makeModulars_156
  refine sm_iload (pc := 156) (n := 7) dX5_makeModulars_156 ?_
  refine sm_aload_n (pc := 158) (n := 0) dX5_makeModulars_158 rfl ?_
  refine gf_X5_9 (pc := 159) rfl dX5_makeModulars_159 ?_
  refine gf_X5_19 (pc := 162) rfl dX5_makeModulars_162 ?_
  refine sm_icmp_ge (pc := 165) (tgt := 233) dX5_makeModulars_165 (by decide) ?_ ?_
  · skip
    exact hj233
  · skip
    refine sm_aload_n (pc := 168) (n := 0) dX5_makeModulars_168 rfl ?_
    refine gf_X5_28 (pc := 169) rfl dX5_makeModulars_169 ?_
    refine sm_iload (pc := 172) (n := 7) dX5_makeModulars_172 ?_
    refine sm_baload (pc := 174) dX5_makeModulars_174 ?_
    refine sm_join (pc := 175) (pc' := 227) (sbX5_makeModulars_227 P r156 hr156) (fun j227 hj227 => ?_)
    refine sm_if_eq (pc := 175) (tgt := 227) dX5_makeModulars_175 (by decide) ?_ ?_
    · skip
      exact hj227
    · skip
      refine sm_aload_n (pc := 178) (n := 0) dX5_makeModulars_178 rfl ?_
      refine gf_X5_40 (pc := 179) rfl dX5_makeModulars_179 ?_
      refine sm_iload (pc := 182) (n := 5) dX5_makeModulars_182 ?_
      refine sm_aaload (pc := 184) dX5_makeModulars_184 ?_
      refine sm_iload (pc := 185) (n := 7) dX5_makeModulars_185 ?_
      refine sm_aload_n (pc := 187) (n := 0) dX5_makeModulars_187 rfl ?_
      refine gf_X5_35 (pc := 188) rfl dX5_makeModulars_188 ?_
      refine sm_iload (pc := 191) (n := 5) dX5_makeModulars_191 ?_
      refine sm_iaload (pc := 193) dX5_makeModulars_193 ?_
      refine sm_aload (pc := 194) (n := 6) dX5_makeModulars_194 ?_
      refine gf_X5_96 (pc := 196) rfl dX5_makeModulars_196 ?_
      refine sm_join (pc := 199) (pc' := 226) (sbX5_makeModulars_226 P j227 hj227) (fun j226 hj226 => ?_)
      refine sm_icmp_ge (pc := 199) (tgt := 213) dX5_makeModulars_199 (by decide) ?_ ?_
      · skip
        refine sm_aload_n (pc := 213) (n := 0) dX5_makeModulars_213 rfl ?_
        refine gf_X5_9 (pc := 214) rfl dX5_makeModulars_214 ?_
        exact scX5_makeModulars_217 P j226 hj226
      · skip
        refine sm_aload_n (pc := 202) (n := 0) dX5_makeModulars_202 rfl ?_
        refine sm_iload (pc := 203) (n := 7) dX5_makeModulars_203 ?_
        exact scX5_makeModulars_205 P j226 hj226
noncomputable def bX5_makeModulars_153 {d : Nat} (P : zP d) (j233 : zK d) : zK d := (xpI 0 (xist 7 (xloop (fun r156 => (lX5_makeModulars_156 P j233 r156)) 100000)))
set_option maxRecDepth 100000 in
set_option maxHeartbeats 4000000 in
theorem sbX5_makeModulars_153 {d : Nat} [zGh] (P : zP d) (j233 : zK d) (hj233 : zSim X_X5_makeModulars 5 P 233 j233) : zSim X_X5_makeModulars 5 P 153 (bX5_makeModulars_153 P j233) := by
  unfold bX5_makeModulars_153
  refine sm_iconst (pc := 153) dX5_makeModulars_153 zc_i_0 ?_
  refine sm_istore (pc := 154) (n := 7) dX5_makeModulars_154 ?_
  exact sm_loop (fun r156 hr156 => slX5_makeModulars_156 P j233 r156 hj233 hr156) _
noncomputable def cX5_makeModulars_122 {d : Nat} (P : zP d) (r73 : zK d) : zK d := (xjoin (bX5_makeModulars_233 P r73) (fun j233 => (xif0 t0eq j233 (xald 0 (xgfR 21 5 (xild 5 (xald1 0 (xald 6 (xgfI 20 5 (xjoin (bX5_makeModulars_153 P j233) (fun j153 => (xcmp tge j153 (xald 0 (xild 5 (xald 3 (xald 2 (xald 4 (xcV 21 5 0 0 f_X5_makeFixed j153))))))))))))))))))
set_option maxRecDepth 100000 in
set_option maxHeartbeats 4000000 in
theorem scX5_makeModulars_122 {d : Nat} [zGh] (P : zP d) (r73 : zK d) (hr73 : zSim X_X5_makeModulars 5 P 73 r73) : zSim X_X5_makeModulars 5 P 122 (cX5_makeModulars_122 P r73) := by
  unfold cX5_makeModulars_122
  refine sm_join (pc := 122) (pc' := 233) (sbX5_makeModulars_233 P r73 hr73) (fun j233 hj233 => ?_)
  refine sm_if_ne (pc := 122) (tgt := 128) dX5_makeModulars_122 (by decide) ?_ ?_
  · skip
    refine sm_aload_n (pc := 128) (n := 0) dX5_makeModulars_128 rfl ?_
    refine gf_X5_35 (pc := 129) rfl dX5_makeModulars_129 ?_
    refine sm_iload (pc := 132) (n := 5) dX5_makeModulars_132 ?_
    refine sm_iaload (pc := 134) dX5_makeModulars_134 ?_
    refine sm_aload (pc := 135) (n := 6) dX5_makeModulars_135 ?_
    refine gf_X5_96 (pc := 137) rfl dX5_makeModulars_137 ?_
    refine sm_join (pc := 140) (pc' := 153) (sbX5_makeModulars_153 P j233 hj233) (fun j153 hj153 => ?_)
    refine sm_icmp_ge (pc := 140) (tgt := 153) dX5_makeModulars_140 (by decide) ?_ ?_
    · skip
      exact hj153
    · skip
      refine sm_aload_n (pc := 143) (n := 0) dX5_makeModulars_143 rfl ?_
      refine sm_iload (pc := 144) (n := 5) dX5_makeModulars_144 ?_
      refine sm_aload_n (pc := 146) (n := 3) dX5_makeModulars_146 rfl ?_
      refine sm_aload_n (pc := 147) (n := 2) dX5_makeModulars_147 rfl ?_
      refine sm_aload (pc := 148) (n := 4) dX5_makeModulars_148 ?_
      refine sm_cV (pc := 150) (ci := 5) (n := 5) (mc := 0) (ms := 0) rfl m_X5_makeFixed (cr_X5_121 (X := X_X5_makeModulars) (fr := 5) (frc := 4) (pc := 150) (mc := 0) (ms := 0) rfl (by decide) dX5_makeModulars_150) ?_
      exact hj153
  · skip
    refine sm_goto (pc := 125) (tgt := 233) dX5_makeModulars_125 (by decide) ?_
    exact hj233
noncomputable def lX5_makeModulars_73 {d : Nat} (P : zP d) (r73 : zK d) : zK d := (xild 5 (xald 0 (xgfR 21 0 (xgfI 23 1 (xcmp tge (xvret P) (xald 0 (xgfR 21 0 (xgfR 23 3 (xild 5 (xaal (xast 6 (xald 0 (xgfR 21 5 (xild 5 (xald 6 (xald 6 (xgfR 20 7 (xpN (xald 2 (xcS 4 0 0 f_X5_rankOfDifference (xast1 0 (fun v => v) (xald 0 (xild 5 (xcV 21 2 0 0 f_X5_isRegular (cX5_makeModulars_122 P r73)))))))))))))))))))))))))
set_option maxRecDepth 100000 in
set_option maxHeartbeats 4000000 in
theorem slX5_makeModulars_73 {d : Nat} [zGh] (P : zP d) (r73 : zK d) (hr73 : zSim X_X5_makeModulars 5 P 73 r73) : zSim X_X5_makeModulars 5 P 73 (lX5_makeModulars_73 P r73) := by
  unfold lX5_makeModulars_73
  refine sm_iload (pc := 73) (n := 5) dX5_makeModulars_73 ?_
  refine sm_aload_n (pc := 75) (n := 0) dX5_makeModulars_75 rfl ?_
  refine gf_X5_9 (pc := 76) rfl dX5_makeModulars_76 ?_
  refine gf_X5_19 (pc := 79) rfl dX5_makeModulars_79 ?_
  refine sm_icmp_ge (pc := 82) (tgt := 239) dX5_makeModulars_82 (by decide) ?_ ?_
  · skip
    exact sm_vreturn (pc := 239) dX5_makeModulars_239 rfl
  · skip
    refine sm_aload_n (pc := 85) (n := 0) dX5_makeModulars_85 rfl ?_
    refine gf_X5_9 (pc := 86) rfl dX5_makeModulars_86 ?_
    refine gf_X5_80 (pc := 89) rfl dX5_makeModulars_89 ?_
    refine sm_iload (pc := 92) (n := 5) dX5_makeModulars_92 ?_
    refine sm_aaload (pc := 94) dX5_makeModulars_94 ?_
    refine sm_astore (pc := 95) (n := 6) dX5_makeModulars_95 ?_
    refine sm_aload_n (pc := 97) (n := 0) dX5_makeModulars_97 rfl ?_
    refine gf_X5_35 (pc := 98) rfl dX5_makeModulars_98 ?_
    refine sm_iload (pc := 101) (n := 5) dX5_makeModulars_101 ?_
    refine sm_aload (pc := 103) (n := 6) dX5_makeModulars_103 ?_
    refine sm_aload (pc := 105) (n := 6) dX5_makeModulars_105 ?_
    refine gf_X5_110 (pc := 107) rfl dX5_makeModulars_107 ?_
    refine sm_null (pc := 110) dX5_makeModulars_110 ?_
    refine sm_aload_n (pc := 111) (n := 2) dX5_makeModulars_111 rfl ?_
    refine sm_cS (pc := 112) (n := 4) (mc := 0) (ms := 0) m_X5_rankOfDifference (cr_X5_113 (X := X_X5_makeModulars) (fr := 5) (frc := 3) (pc := 112) (mc := 0) (ms := 0) rfl (by decide) dX5_makeModulars_112) ?_
    refine sm_iastore (pc := 115) dX5_makeModulars_115 ?_
    refine sm_aload_n (pc := 116) (n := 0) dX5_makeModulars_116 rfl ?_
    refine sm_iload (pc := 117) (n := 5) dX5_makeModulars_117 ?_
    refine sm_cV (pc := 119) (ci := 5) (n := 2) (mc := 0) (ms := 0) rfl m_X5_isRegular (cr_X5_117 (X := X_X5_makeModulars) (fr := 5) (frc := 1) (pc := 119) (mc := 0) (ms := 0) rfl (by decide) dX5_makeModulars_119) ?_
    exact scX5_makeModulars_122 P r73 hr73
noncomputable def lX5_makeModulars_4 {d : Nat} (P : zP d) (r4 : zK d) : zK d := (xild 2 (xald 0 (xgfR 21 0 (xgfI 23 1 (xcmp tge (xnew 19 2 (xdup (xald 0 (xgfI 21 1 (xild 1 (xild 1 (xcV 19 4 20 300 f_X3_init (xast 2 (xild 1 (xild 1 (xmnaD 3 0 (xast 3 (xald 0 (xgfR 21 0 (xgfI 23 1 (xnwa 0 (xast 4 (xpI 0 (xist 5 (xloop (fun r73 => (lX5_makeModulars_73 P r73)) 100000)))))))))))))))))))) (xild 1 (xald 0 (xgfR 21 0 (xgfR 23 3 (xild 2 (xaal (xgfI 20 5 (xmm zmax (xist 1 (xinc 2 1 r4)))))))))))))))
set_option maxRecDepth 100000 in
set_option maxHeartbeats 4000000 in
theorem slX5_makeModulars_4 {d : Nat} [zGh] (P : zP d) (r4 : zK d) (hr4 : zSim X_X5_makeModulars 5 P 4 r4) : zSim X_X5_makeModulars 5 P 4 (lX5_makeModulars_4 P r4) := by
  unfold lX5_makeModulars_4
  refine sm_iload_n (pc := 4) (n := 2) dX5_makeModulars_4 rfl ?_
  refine sm_aload_n (pc := 5) (n := 0) dX5_makeModulars_5 rfl ?_
  refine gf_X5_9 (pc := 6) rfl dX5_makeModulars_6 ?_
  refine gf_X5_19 (pc := 9) rfl dX5_makeModulars_9 ?_
  refine sm_icmp_ge (pc := 12) (tgt := 38) dX5_makeModulars_12 (by decide) ?_ ?_
  · skip
    refine sm_new (pc := 38) (ci := 3) (C := RX3) (T := TX3) (N := 2) (ty0 := tyX3) rfl rfl (by decide) (by decide) inz3 tyX3_ok rfl wd_345 wd_346 wd_10 dX5_makeModulars_38 ?_
    refine sm_dup (pc := 41) dX5_makeModulars_41 ?_
    refine sm_aload_n (pc := 42) (n := 0) dX5_makeModulars_42 rfl ?_
    refine gf_X5_15 (pc := 43) rfl dX5_makeModulars_43 ?_
    refine sm_iload_n (pc := 46) (n := 1) dX5_makeModulars_46 rfl ?_
    refine sm_iload_n (pc := 47) (n := 1) dX5_makeModulars_47 rfl ?_
    refine sm_cV (pc := 48) (ci := 3) (n := 4) (mc := 20) (ms := 300) rfl m_X3_init (cr_X5_107 (X := X_X5_makeModulars) (fr := 5) (frc := 1) (pc := 48) (mc := 20) (ms := 300) rfl (by decide) dX5_makeModulars_48) ?_
    refine sm_astore_n (pc := 51) (n := 2) dX5_makeModulars_51 rfl ?_
    refine sm_iload_n (pc := 52) (n := 1) dX5_makeModulars_52 rfl ?_
    refine sm_iload_n (pc := 53) (n := 1) dX5_makeModulars_53 rfl ?_
    refine sm_mnaDI (pc := 54) wd_339 wd_46 dX5_makeModulars_54 ?_
    refine sm_astore_n (pc := 58) (n := 3) dX5_makeModulars_58 rfl ?_
    refine sm_aload_n (pc := 59) (n := 0) dX5_makeModulars_59 rfl ?_
    refine gf_X5_9 (pc := 60) rfl dX5_makeModulars_60 ?_
    refine gf_X5_19 (pc := 63) rfl dX5_makeModulars_63 ?_
    refine sm_newI (pc := 66) dX5_makeModulars_66 wd_46 ?_
    refine sm_astore (pc := 68) (n := 4) dX5_makeModulars_68 ?_
    refine sm_iconst (pc := 70) dX5_makeModulars_70 zc_i_0 ?_
    refine sm_istore (pc := 71) (n := 5) dX5_makeModulars_71 ?_
    exact sm_loop (fun r73 hr73 => slX5_makeModulars_73 P r73 hr73) _
  · skip
    refine sm_iload_n (pc := 15) (n := 1) dX5_makeModulars_15 rfl ?_
    refine sm_aload_n (pc := 16) (n := 0) dX5_makeModulars_16 rfl ?_
    refine gf_X5_9 (pc := 17) rfl dX5_makeModulars_17 ?_
    refine gf_X5_80 (pc := 20) rfl dX5_makeModulars_20 ?_
    refine sm_iload_n (pc := 23) (n := 2) dX5_makeModulars_23 rfl ?_
    refine sm_aaload (pc := 24) dX5_makeModulars_24 ?_
    refine gf_X5_96 (pc := 25) rfl dX5_makeModulars_25 ?_
    refine sm_mmax (pc := 28) wd_344 wd_104 wd_6 wd_105 (by decide) dX5_makeModulars_28 ?_
    refine sm_istore_n (pc := 31) (n := 1) dX5_makeModulars_31 rfl ?_
    refine sm_iinc (pc := 32) (n := 2) dX5_makeModulars_32 zc_i_1 ?_
    refine sm_goto (pc := 35) (tgt := 4) dX5_makeModulars_35 (by decide) ?_
    exact hr4
noncomputable def b_X5_makeModulars {d : Nat} (P : zP d) : zK d := (xpI 1 (xist 1 (xpI 0 (xist 2 (xloop (fun r4 => (lX5_makeModulars_4 P r4)) 100000)))))
set_option maxRecDepth 100000 in
set_option maxHeartbeats 4000000 in
theorem s_X5_makeModulars {d : Nat} [zGh] (P : zP d) : zSim X_X5_makeModulars 5 P 0 (b_X5_makeModulars P) := by
  unfold b_X5_makeModulars
  refine sm_iconst (pc := 0) dX5_makeModulars_0 zc_i_1 ?_
  refine sm_istore_n (pc := 1) (n := 1) dX5_makeModulars_1 rfl ?_
  refine sm_iconst (pc := 2) dX5_makeModulars_2 zc_i_0 ?_
  refine sm_istore_n (pc := 3) (n := 2) dX5_makeModulars_3 rfl ?_
  exact sm_loop (fun r4 hr4 => slX5_makeModulars_4 P r4 hr4) _
noncomputable def f_X5_makeModulars {d : Nat} : List zV → zH d → zP d → Bool := zfn 8 b_X5_makeModulars
theorem m_X5_makeModulars {d : Nat} : zMet (d := d) X_X5_makeModulars yX5_makeModulars 5 f_X5_makeModulars := zmet_mk (X := X_X5_makeModulars) (by decide) rfl rfl s_X5_makeModulars

abbrev X_X5_makeDecompositions : zM := (RX5, cX5_makeDecompositions, 6, none, "makeDecompositions")
noncomputable def bX5_makeDecompositions_209 {d : Nat} (P : zP d) (r149 : zK d) : zK d := (xinc 4 1 r149)
set_option maxRecDepth 100000 in
set_option maxHeartbeats 4000000 in
theorem sbX5_makeDecompositions_209 {d : Nat} [zGh] (P : zP d) (r149 : zK d) (hr149 : zSim X_X5_makeDecompositions 3 P 149 r149) : zSim X_X5_makeDecompositions 3 P 209 (bX5_makeDecompositions_209 P r149) := by
  unfold bX5_makeDecompositions_209
  refine sm_iinc (pc := 209) (n := 4) dX5_makeDecompositions_209 zc_i_1 ?_
  refine sm_goto (pc := 212) (tgt := 149) dX5_makeDecompositions_212 (by decide) ?_
  exact hr149
noncomputable def lX5_makeDecompositions_167 {d : Nat} (P : zP d) (j209 : zK d) (r167 : zK d) : zK d := (xild 5 (xild 1 (xcmp tge j209 (xald 0 (xgfR 21 7 (xild 5 (xaal (xild 4 (xald 2 (xgfR 19 1 (xald 0 (xgfR 21 2 (xild 4 (xald1 0 (xaal (xald 0 (xgfI 21 3 (xild 5 (xbin zadd (xald1 0 (xast1 0 (fun v => v) (xinc 5 1 r167))))))))))))))))))))))
set_option maxRecDepth 100000 in
set_option maxHeartbeats 4000000 in
theorem slX5_makeDecompositions_167 {d : Nat} [zGh] (P : zP d) (j209 : zK d) (r167 : zK d) (hj209 : zSim X_X5_makeDecompositions 3 P 209 j209) (hr167 : zSim X_X5_makeDecompositions 3 P 167 r167) : zSim X_X5_makeDecompositions 3 P 167 (lX5_makeDecompositions_167 P j209 r167) := by
  unfold lX5_makeDecompositions_167
  refine sm_iload (pc := 167) (n := 5) dX5_makeDecompositions_167 ?_
  refine sm_iload_n (pc := 169) (n := 1) dX5_makeDecompositions_169 rfl ?_
  refine sm_icmp_ge (pc := 170) (tgt := 209) dX5_makeDecompositions_170 (by decide) ?_ ?_
  · skip
    exact hj209
  · skip
    refine sm_aload_n (pc := 173) (n := 0) dX5_makeDecompositions_173 rfl ?_
    refine gf_X5_46 (pc := 174) rfl dX5_makeDecompositions_174 ?_
    refine sm_iload (pc := 177) (n := 5) dX5_makeDecompositions_177 ?_
    refine sm_aaload (pc := 179) dX5_makeDecompositions_179 ?_
    refine sm_iload (pc := 180) (n := 4) dX5_makeDecompositions_180 ?_
    refine sm_aload_n (pc := 182) (n := 2) dX5_makeDecompositions_182 rfl ?_
    refine gf_X5_165 (pc := 183) rfl dX5_makeDecompositions_183 ?_
    refine sm_aload_n (pc := 186) (n := 0) dX5_makeDecompositions_186 rfl ?_
    refine gf_X5_24 (pc := 187) rfl dX5_makeDecompositions_187 ?_
    refine sm_iload (pc := 190) (n := 4) dX5_makeDecompositions_190 ?_
    refine sm_iaload (pc := 192) dX5_makeDecompositions_192 ?_
    refine sm_aaload (pc := 193) dX5_makeDecompositions_193 ?_
    refine sm_aload_n (pc := 194) (n := 0) dX5_makeDecompositions_194 rfl ?_
    refine gf_X5_89 (pc := 195) rfl dX5_makeDecompositions_195 ?_
    refine sm_iload (pc := 198) (n := 5) dX5_makeDecompositions_198 ?_
    refine sm_iadd (pc := 200) dX5_makeDecompositions_200 ?_
    refine sm_iaload (pc := 201) dX5_makeDecompositions_201 ?_
    refine sm_iastore (pc := 202) dX5_makeDecompositions_202 ?_
    refine sm_iinc (pc := 203) (n := 5) dX5_makeDecompositions_203 zc_i_1 ?_
    refine sm_goto (pc := 206) (tgt := 167) dX5_makeDecompositions_206 (by decide) ?_
    exact hr167
noncomputable def lX5_makeDecompositions_149 {d : Nat} (P : zP d) (r149 : zK d) : zK d := (xild 4 (xild 1 (xcmp tge (xvret P) (xald 0 (xild 4 (xcV 21 2 0 0 f_X5_isRegular (xjoin (bX5_makeDecompositions_209 P r149) (fun j209 => (xif0 t0eq j209 (xpI 0 (xist 5 (xloop (fun r167 => (lX5_makeDecompositions_167 P j209 r167)) 100000))))))))))))
set_option maxRecDepth 100000 in
set_option maxHeartbeats 4000000 in
theorem slX5_makeDecompositions_149 {d : Nat} [zGh] (P : zP d) (r149 : zK d) (hr149 : zSim X_X5_makeDecompositions 3 P 149 r149) : zSim X_X5_makeDecompositions 3 P 149 (lX5_makeDecompositions_149 P r149) := by
  unfold lX5_makeDecompositions_149
  refine sm_iload (pc := 149) (n := 4) dX5_makeDecompositions_149 ?_
  refine sm_iload_n (pc := 151) (n := 1) dX5_makeDecompositions_151 rfl ?_
  refine sm_icmp_ge (pc := 152) (tgt := 215) dX5_makeDecompositions_152 (by decide) ?_ ?_
  · skip
    exact sm_vreturn (pc := 215) dX5_makeDecompositions_215 rfl
  · skip
    refine sm_aload_n (pc := 155) (n := 0) dX5_makeDecompositions_155 rfl ?_
    refine sm_iload (pc := 156) (n := 4) dX5_makeDecompositions_156 ?_
    refine sm_cV (pc := 158) (ci := 5) (n := 2) (mc := 0) (ms := 0) rfl m_X5_isRegular (cr_X5_117 (X := X_X5_makeDecompositions) (fr := 3) (frc := 1) (pc := 158) (mc := 0) (ms := 0) rfl (by decide) dX5_makeDecompositions_158) ?_
    refine sm_join (pc := 161) (pc' := 209) (sbX5_makeDecompositions_209 P r149 hr149) (fun j209 hj209 => ?_)
    refine sm_if_eq (pc := 161) (tgt := 209) dX5_makeDecompositions_161 (by decide) ?_ ?_
    · skip
      exact hj209
    · skip
      refine sm_iconst (pc := 164) dX5_makeDecompositions_164 zc_i_0 ?_
      refine sm_istore (pc := 165) (n := 5) dX5_makeDecompositions_165 ?_
      exact sm_loop (fun r167 hr167 => slX5_makeDecompositions_167 P j209 r167 hj209 hr167) _
noncomputable def bX5_makeDecompositions_124 {d : Nat} (P : zP d) (r31 : zK d) : zK d := (xinc 4 1 r31)
set_option maxRecDepth 100000 in
set_option maxHeartbeats 4000000 in
theorem sbX5_makeDecompositions_124 {d : Nat} [zGh] (P : zP d) (r31 : zK d) (hr31 : zSim X_X5_makeDecompositions 3 P 31 r31) : zSim X_X5_makeDecompositions 3 P 124 (bX5_makeDecompositions_124 P r31) := by
  unfold bX5_makeDecompositions_124
  refine sm_iinc (pc := 124) (n := 4) dX5_makeDecompositions_124 zc_i_1 ?_
  refine sm_goto (pc := 127) (tgt := 31) dX5_makeDecompositions_127 (by decide) ?_
  exact hr31
noncomputable def bX5_makeDecompositions_115 {d : Nat} (P : zP d) (r53 : zK d) : zK d := (xinc 5 1 r53)
set_option maxRecDepth 100000 in
set_option maxHeartbeats 4000000 in
theorem sbX5_makeDecompositions_115 {d : Nat} [zGh] (P : zP d) (r53 : zK d) (hr53 : zSim X_X5_makeDecompositions 3 P 53 r53) : zSim X_X5_makeDecompositions 3 P 115 (bX5_makeDecompositions_115 P r53) := by
  unfold bX5_makeDecompositions_115
  refine sm_iinc (pc := 115) (n := 5) dX5_makeDecompositions_115 zc_i_1 ?_
  refine sm_goto (pc := 118) (tgt := 53) dX5_makeDecompositions_118 (by decide) ?_
  exact hr53
noncomputable def cX5_makeDecompositions_96 {d : Nat} (P : zP d) (j115 : zK d) : zK d := (xgfR 21 2 (xild 5 (xald1 0 (xald 0 (xgfR 21 6 (xild 5 (xaal (xild 4 (xald1 0 (xcV 19 4 0 0 f_X3_set j115))))))))))
set_option maxRecDepth 100000 in
set_option maxHeartbeats 4000000 in
theorem scX5_makeDecompositions_96 {d : Nat} [zGh] (P : zP d) (j115 : zK d) (hj115 : zSim X_X5_makeDecompositions 3 P 115 j115) : zSim X_X5_makeDecompositions 3 P 96 (cX5_makeDecompositions_96 P j115) := by
  unfold cX5_makeDecompositions_96
  refine gf_X5_24 (pc := 96) rfl dX5_makeDecompositions_96 ?_
  refine sm_iload (pc := 99) (n := 5) dX5_makeDecompositions_99 ?_
  refine sm_iaload (pc := 101) dX5_makeDecompositions_101 ?_
  refine sm_aload_n (pc := 102) (n := 0) dX5_makeDecompositions_102 rfl ?_
  refine gf_X5_40 (pc := 103) rfl dX5_makeDecompositions_103 ?_
  refine sm_iload (pc := 106) (n := 5) dX5_makeDecompositions_106 ?_
  refine sm_aaload (pc := 108) dX5_makeDecompositions_108 ?_
  refine sm_iload (pc := 109) (n := 4) dX5_makeDecompositions_109 ?_
  refine sm_iaload (pc := 111) dX5_makeDecompositions_111 ?_
  refine sm_cV (pc := 112) (ci := 3) (n := 4) (mc := 0) (ms := 0) rfl m_X3_set (cr_X5_132 (X := X_X5_makeDecompositions) (fr := 3) (frc := 1) (pc := 112) (mc := 0) (ms := 0) rfl (by decide) dX5_makeDecompositions_112) ?_
  exact hj115
noncomputable def lX5_makeDecompositions_53 {d : Nat} (P : zP d) (j124 : zK d) (r53 : zK d) : zK d := (xild 5 (xild 1 (xcmp tge (xinc 3 1 j124) (xald 2 (xild 3 (xald 0 (xgfI 21 3 (xild 5 (xbin zadd (xald 0 (xgfR 21 0 (xgfR 23 12 (xild 5 (xaal (xild 4 (xald1 0 (xcV 19 4 0 0 f_X3_set (xald 0 (xild 5 (xcV 21 2 0 0 f_X5_isRegular (xjoin (bX5_makeDecompositions_115 P r53) (fun j115 => (xif0 t0eq j115 (xald 2 (xild 3 (xald 0 (cX5_makeDecompositions_96 P j115)))))))))))))))))))))))))))
set_option maxRecDepth 100000 in
set_option maxHeartbeats 4000000 in
theorem slX5_makeDecompositions_53 {d : Nat} [zGh] (P : zP d) (j124 : zK d) (r53 : zK d) (hj124 : zSim X_X5_makeDecompositions 3 P 124 j124) (hr53 : zSim X_X5_makeDecompositions 3 P 53 r53) : zSim X_X5_makeDecompositions 3 P 53 (lX5_makeDecompositions_53 P j124 r53) := by
  unfold lX5_makeDecompositions_53
  refine sm_iload (pc := 53) (n := 5) dX5_makeDecompositions_53 ?_
  refine sm_iload_n (pc := 55) (n := 1) dX5_makeDecompositions_55 rfl ?_
  refine sm_icmp_ge (pc := 56) (tgt := 121) dX5_makeDecompositions_56 (by decide) ?_ ?_
  · skip
    refine sm_iinc (pc := 121) (n := 3) dX5_makeDecompositions_121 zc_i_1 ?_
    exact hj124
  · skip
    refine sm_aload_n (pc := 59) (n := 2) dX5_makeDecompositions_59 rfl ?_
    refine sm_iload_n (pc := 60) (n := 3) dX5_makeDecompositions_60 rfl ?_
    refine sm_aload_n (pc := 61) (n := 0) dX5_makeDecompositions_61 rfl ?_
    refine gf_X5_89 (pc := 62) rfl dX5_makeDecompositions_62 ?_
    refine sm_iload (pc := 65) (n := 5) dX5_makeDecompositions_65 ?_
    refine sm_iadd (pc := 67) dX5_makeDecompositions_67 ?_
    refine sm_aload_n (pc := 68) (n := 0) dX5_makeDecompositions_68 rfl ?_
    refine gf_X5_9 (pc := 69) rfl dX5_makeDecompositions_69 ?_
    refine gf_X5_129 (pc := 72) rfl dX5_makeDecompositions_72 ?_
    refine sm_iload (pc := 75) (n := 5) dX5_makeDecompositions_75 ?_
    refine sm_aaload (pc := 77) dX5_makeDecompositions_77 ?_
    refine sm_iload (pc := 78) (n := 4) dX5_makeDecompositions_78 ?_
    refine sm_iaload (pc := 80) dX5_makeDecompositions_80 ?_
    refine sm_cV (pc := 81) (ci := 3) (n := 4) (mc := 0) (ms := 0) rfl m_X3_set (cr_X5_132 (X := X_X5_makeDecompositions) (fr := 3) (frc := 1) (pc := 81) (mc := 0) (ms := 0) rfl (by decide) dX5_makeDecompositions_81) ?_
    refine sm_aload_n (pc := 84) (n := 0) dX5_makeDecompositions_84 rfl ?_
    refine sm_iload (pc := 85) (n := 5) dX5_makeDecompositions_85 ?_
    refine sm_cV (pc := 87) (ci := 5) (n := 2) (mc := 0) (ms := 0) rfl m_X5_isRegular (cr_X5_117 (X := X_X5_makeDecompositions) (fr := 3) (frc := 1) (pc := 87) (mc := 0) (ms := 0) rfl (by decide) dX5_makeDecompositions_87) ?_
    refine sm_join (pc := 90) (pc' := 115) (sbX5_makeDecompositions_115 P r53 hr53) (fun j115 hj115 => ?_)
    refine sm_if_eq (pc := 90) (tgt := 115) dX5_makeDecompositions_90 (by decide) ?_ ?_
    · skip
      exact hj115
    · skip
      refine sm_aload_n (pc := 93) (n := 2) dX5_makeDecompositions_93 rfl ?_
      refine sm_iload_n (pc := 94) (n := 3) dX5_makeDecompositions_94 rfl ?_
      refine sm_aload_n (pc := 95) (n := 0) dX5_makeDecompositions_95 rfl ?_
      exact scX5_makeDecompositions_96 P j115 hj115
noncomputable def lX5_makeDecompositions_31 {d : Nat} (P : zP d) (r31 : zK d) : zK d := (xild 4 (xild 1 (xcmp tge (xald 2 (xild 3 (xald 0 (xgfI 21 3 (xald 0 (xgfI 21 3 (xild 1 (xbin zadd (xcV 19 4 0 0 f_X3_reduce (xpop (xpI 0 (xist 4 (xloop (fun r149 => (lX5_makeDecompositions_149 P r149)) 100000))))))))))))) (xald 0 (xgfR 21 4 (xild 4 (xald1 1 (xjoin (bX5_makeDecompositions_124 P r31) (fun j124 => (xif0 t0eq j124 (xpI 0 (xist 5 (xloop (fun r53 => (lX5_makeDecompositions_53 P j124 r53)) 100000)))))))))))))
set_option maxRecDepth 100000 in
set_option maxHeartbeats 4000000 in
theorem slX5_makeDecompositions_31 {d : Nat} [zGh] (P : zP d) (r31 : zK d) (hr31 : zSim X_X5_makeDecompositions 3 P 31 r31) : zSim X_X5_makeDecompositions 3 P 31 (lX5_makeDecompositions_31 P r31) := by
  unfold lX5_makeDecompositions_31
  refine sm_iload (pc := 31) (n := 4) dX5_makeDecompositions_31 ?_
  refine sm_iload_n (pc := 33) (n := 1) dX5_makeDecompositions_33 rfl ?_
  refine sm_icmp_ge (pc := 34) (tgt := 130) dX5_makeDecompositions_34 (by decide) ?_ ?_
  · skip
    refine sm_aload_n (pc := 130) (n := 2) dX5_makeDecompositions_130 rfl ?_
    refine sm_iload_n (pc := 131) (n := 3) dX5_makeDecompositions_131 rfl ?_
    refine sm_aload_n (pc := 132) (n := 0) dX5_makeDecompositions_132 rfl ?_
    refine gf_X5_89 (pc := 133) rfl dX5_makeDecompositions_133 ?_
    refine sm_aload_n (pc := 136) (n := 0) dX5_makeDecompositions_136 rfl ?_
    refine gf_X5_89 (pc := 137) rfl dX5_makeDecompositions_137 ?_
    refine sm_iload_n (pc := 140) (n := 1) dX5_makeDecompositions_140 rfl ?_
    refine sm_iadd (pc := 141) dX5_makeDecompositions_141 ?_
    refine sm_cV (pc := 142) (ci := 3) (n := 4) (mc := 0) (ms := 0) rfl m_X3_reduce (cr_X5_135 (X := X_X5_makeDecompositions) (fr := 3) (frc := 2) (pc := 142) (mc := 0) (ms := 0) rfl (by decide) dX5_makeDecompositions_142) ?_
    refine sm_pop (pc := 145) dX5_makeDecompositions_145 ?_
    refine sm_iconst (pc := 146) dX5_makeDecompositions_146 zc_i_0 ?_
    refine sm_istore (pc := 147) (n := 4) dX5_makeDecompositions_147 ?_
    exact sm_loop (fun r149 hr149 => slX5_makeDecompositions_149 P r149 hr149) _
  · skip
    refine sm_aload_n (pc := 37) (n := 0) dX5_makeDecompositions_37 rfl ?_
    refine gf_X5_28 (pc := 38) rfl dX5_makeDecompositions_38 ?_
    refine sm_iload (pc := 41) (n := 4) dX5_makeDecompositions_41 ?_
    refine sm_baload (pc := 43) dX5_makeDecompositions_43 ?_
    refine sm_join (pc := 44) (pc' := 124) (sbX5_makeDecompositions_124 P r31 hr31) (fun j124 hj124 => ?_)
    refine sm_if_ne (pc := 44) (tgt := 50) dX5_makeDecompositions_44 (by decide) ?_ ?_
    · skip
      refine sm_iconst (pc := 50) dX5_makeDecompositions_50 zc_i_0 ?_
      refine sm_istore (pc := 51) (n := 5) dX5_makeDecompositions_51 ?_
      exact sm_loop (fun r53 hr53 => slX5_makeDecompositions_53 P j124 r53 hj124 hr53) _
    · skip
      refine sm_goto (pc := 47) (tgt := 124) dX5_makeDecompositions_47 (by decide) ?_
      exact hj124
noncomputable def b_X5_makeDecompositions {d : Nat} (P : zP d) : zK d := (xald 0 (xgfR 21 0 (xgfI 23 1 (xist 1 (xnew 19 2 (xdup (xpI 10007 (xild 1 (xald 0 (xgfI 21 3 (xild 1 (xbin zadd (xcV 19 4 20 300 f_X3_init (xast 2 (xpI 0 (xist 3 (xpI 0 (xist 4 (xloop (fun r31 => (lX5_makeDecompositions_31 P r31)) 100000)))))))))))))))))))
set_option maxRecDepth 100000 in
set_option maxHeartbeats 4000000 in
theorem s_X5_makeDecompositions {d : Nat} [zGh] (P : zP d) : zSim X_X5_makeDecompositions 3 P 0 (b_X5_makeDecompositions P) := by
  unfold b_X5_makeDecompositions
  refine sm_aload_n (pc := 0) (n := 0) dX5_makeDecompositions_0 rfl ?_
  refine gf_X5_9 (pc := 1) rfl dX5_makeDecompositions_1 ?_
  refine gf_X5_19 (pc := 4) rfl dX5_makeDecompositions_4 ?_
  refine sm_istore_n (pc := 7) (n := 1) dX5_makeDecompositions_7 rfl ?_
  refine sm_new (pc := 8) (ci := 3) (C := RX3) (T := TX3) (N := 2) (ty0 := tyX3) rfl rfl (by decide) (by decide) inz3 tyX3_ok rfl wd_345 wd_346 wd_10 dX5_makeDecompositions_8 ?_
  refine sm_dup (pc := 11) dX5_makeDecompositions_11 ?_
  refine sm_sipush (pc := 12) dX5_makeDecompositions_12 zc_s_10007 ?_
  refine sm_iload_n (pc := 15) (n := 1) dX5_makeDecompositions_15 rfl ?_
  refine sm_aload_n (pc := 16) (n := 0) dX5_makeDecompositions_16 rfl ?_
  refine gf_X5_89 (pc := 17) rfl dX5_makeDecompositions_17 ?_
  refine sm_iload_n (pc := 20) (n := 1) dX5_makeDecompositions_20 rfl ?_
  refine sm_iadd (pc := 21) dX5_makeDecompositions_21 ?_
  refine sm_cV (pc := 22) (ci := 3) (n := 4) (mc := 20) (ms := 300) rfl m_X3_init (cr_X5_107 (X := X_X5_makeDecompositions) (fr := 3) (frc := 1) (pc := 22) (mc := 20) (ms := 300) rfl (by decide) dX5_makeDecompositions_22) ?_
  refine sm_astore_n (pc := 25) (n := 2) dX5_makeDecompositions_25 rfl ?_
  refine sm_iconst (pc := 26) dX5_makeDecompositions_26 zc_i_0 ?_
  refine sm_istore_n (pc := 27) (n := 3) dX5_makeDecompositions_27 rfl ?_
  refine sm_iconst (pc := 28) dX5_makeDecompositions_28 zc_i_0 ?_
  refine sm_istore (pc := 29) (n := 4) dX5_makeDecompositions_29 ?_
  exact sm_loop (fun r31 hr31 => slX5_makeDecompositions_31 P r31 hr31) _
noncomputable def f_X5_makeDecompositions {d : Nat} : List zV → zH d → zP d → Bool := zfn 6 b_X5_makeDecompositions
theorem m_X5_makeDecompositions {d : Nat} : zMet (d := d) X_X5_makeDecompositions yX5_makeDecompositions 3 f_X5_makeDecompositions := zmet_mk (X := X_X5_makeDecompositions) (by decide) rfl rfl s_X5_makeDecompositions

abbrev X_X5_makeCartans : zM := (RX5, cX5_makeCartans, 4, none, "makeCartans")
noncomputable def cX5_makeCartans_64 {d : Nat} (P : zP d) (r28 : zK d) : zK d := (xbin zmul (xbin zadd (xast1 0 (fun v => v) (xinc 3 1 r28))))
set_option maxRecDepth 100000 in
set_option maxHeartbeats 4000000 in
theorem scX5_makeCartans_64 {d : Nat} [zGh] (P : zP d) (r28 : zK d) (hr28 : zSim X_X5_makeCartans 1 P 28 r28) : zSim X_X5_makeCartans 1 P 64 (cX5_makeCartans_64 P r28) := by
  unfold cX5_makeCartans_64
  refine sm_imul (pc := 64) dX5_makeCartans_64 ?_
  refine sm_iadd (pc := 65) dX5_makeCartans_65 ?_
  refine sm_iastore (pc := 66) dX5_makeCartans_66 ?_
  refine sm_iinc (pc := 67) (n := 3) dX5_makeCartans_67 zc_i_1 ?_
  refine sm_goto (pc := 70) (tgt := 28) dX5_makeCartans_70 (by decide) ?_
  exact hr28
noncomputable def lX5_makeCartans_28 {d : Nat} (P : zP d) (r15 : zK d) (r28 : zK d) : zK d := (xild 3 (xald 0 (xgfR 21 0 (xgfI 23 1 (xcmp tge (xinc 2 1 r15) (xald 0 (xgfR 21 8 (xild 2 (xaal (xild 3 (xdup2 (xald1 0 (xald 0 (xgfR 21 7 (xild 1 (xaal (xild 2 (xald1 0 (xald 0 (xgfR 21 7 (xild 1 (xaal (xild 3 (xald1 0 (cX5_makeCartans_64 P r28)))))))))))))))))))))))))
set_option maxRecDepth 100000 in
set_option maxHeartbeats 4000000 in
theorem slX5_makeCartans_28 {d : Nat} [zGh] (P : zP d) (r15 : zK d) (r28 : zK d) (hr15 : zSim X_X5_makeCartans 1 P 15 r15) (hr28 : zSim X_X5_makeCartans 1 P 28 r28) : zSim X_X5_makeCartans 1 P 28 (lX5_makeCartans_28 P r15 r28) := by
  unfold lX5_makeCartans_28
  refine sm_iload_n (pc := 28) (n := 3) dX5_makeCartans_28 rfl ?_
  refine sm_aload_n (pc := 29) (n := 0) dX5_makeCartans_29 rfl ?_
  refine gf_X5_9 (pc := 30) rfl dX5_makeCartans_30 ?_
  refine gf_X5_19 (pc := 33) rfl dX5_makeCartans_33 ?_
  refine sm_icmp_ge (pc := 36) (tgt := 73) dX5_makeCartans_36 (by decide) ?_ ?_
  · skip
    refine sm_iinc (pc := 73) (n := 2) dX5_makeCartans_73 zc_i_1 ?_
    refine sm_goto (pc := 76) (tgt := 15) dX5_makeCartans_76 (by decide) ?_
    exact hr15
  · skip
    refine sm_aload_n (pc := 39) (n := 0) dX5_makeCartans_39 rfl ?_
    refine gf_X5_52 (pc := 40) rfl dX5_makeCartans_40 ?_
    refine sm_iload_n (pc := 43) (n := 2) dX5_makeCartans_43 rfl ?_
    refine sm_aaload (pc := 44) dX5_makeCartans_44 ?_
    refine sm_iload_n (pc := 45) (n := 3) dX5_makeCartans_45 rfl ?_
    refine sm_dup2 (pc := 46) dX5_makeCartans_46 ?_
    refine sm_iaload (pc := 47) dX5_makeCartans_47 ?_
    refine sm_aload_n (pc := 48) (n := 0) dX5_makeCartans_48 rfl ?_
    refine gf_X5_46 (pc := 49) rfl dX5_makeCartans_49 ?_
    refine sm_iload_n (pc := 52) (n := 1) dX5_makeCartans_52 rfl ?_
    refine sm_aaload (pc := 53) dX5_makeCartans_53 ?_
    refine sm_iload_n (pc := 54) (n := 2) dX5_makeCartans_54 rfl ?_
    refine sm_iaload (pc := 55) dX5_makeCartans_55 ?_
    refine sm_aload_n (pc := 56) (n := 0) dX5_makeCartans_56 rfl ?_
    refine gf_X5_46 (pc := 57) rfl dX5_makeCartans_57 ?_
    refine sm_iload_n (pc := 60) (n := 1) dX5_makeCartans_60 rfl ?_
    refine sm_aaload (pc := 61) dX5_makeCartans_61 ?_
    refine sm_iload_n (pc := 62) (n := 3) dX5_makeCartans_62 rfl ?_
    refine sm_iaload (pc := 63) dX5_makeCartans_63 ?_
    exact scX5_makeCartans_64 P r28 hr28
noncomputable def lX5_makeCartans_15 {d : Nat} (P : zP d) (r15 : zK d) (r2 : zK d) : zK d := (xild 2 (xald 0 (xgfR 21 0 (xgfI 23 1 (xcmp tge (xinc 1 1 r2) (xpI 0 (xist 3 (xloop (fun r28 => (lX5_makeCartans_28 P r15 r28)) 100000))))))))
set_option maxRecDepth 100000 in
set_option maxHeartbeats 4000000 in
theorem slX5_makeCartans_15 {d : Nat} [zGh] (P : zP d) (r15 : zK d) (r2 : zK d) (hr15 : zSim X_X5_makeCartans 1 P 15 r15) (hr2 : zSim X_X5_makeCartans 1 P 2 r2) : zSim X_X5_makeCartans 1 P 15 (lX5_makeCartans_15 P r15 r2) := by
  unfold lX5_makeCartans_15
  refine sm_iload_n (pc := 15) (n := 2) dX5_makeCartans_15 rfl ?_
  refine sm_aload_n (pc := 16) (n := 0) dX5_makeCartans_16 rfl ?_
  refine gf_X5_9 (pc := 17) rfl dX5_makeCartans_17 ?_
  refine gf_X5_19 (pc := 20) rfl dX5_makeCartans_20 ?_
  refine sm_icmp_ge (pc := 23) (tgt := 79) dX5_makeCartans_23 (by decide) ?_ ?_
  · skip
    refine sm_iinc (pc := 79) (n := 1) dX5_makeCartans_79 zc_i_1 ?_
    refine sm_goto (pc := 82) (tgt := 2) dX5_makeCartans_82 (by decide) ?_
    exact hr2
  · skip
    refine sm_iconst (pc := 26) dX5_makeCartans_26 zc_i_0 ?_
    refine sm_istore_n (pc := 27) (n := 3) dX5_makeCartans_27 rfl ?_
    exact sm_loop (fun r28 hr28 => slX5_makeCartans_28 P r15 r28 hr15 hr28) _
noncomputable def lX5_makeCartans_2 {d : Nat} (P : zP d) (r2 : zK d) : zK d := (xild 1 (xald 0 (xgfR 21 0 (xgfI 23 1 (xcmp tge (xvret P) (xpI 0 (xist 2 (xloop (fun r15 => (lX5_makeCartans_15 P r15 r2)) 100000))))))))
set_option maxRecDepth 100000 in
set_option maxHeartbeats 4000000 in
theorem slX5_makeCartans_2 {d : Nat} [zGh] (P : zP d) (r2 : zK d) (hr2 : zSim X_X5_makeCartans 1 P 2 r2) : zSim X_X5_makeCartans 1 P 2 (lX5_makeCartans_2 P r2) := by
  unfold lX5_makeCartans_2
  refine sm_iload_n (pc := 2) (n := 1) dX5_makeCartans_2 rfl ?_
  refine sm_aload_n (pc := 3) (n := 0) dX5_makeCartans_3 rfl ?_
  refine gf_X5_9 (pc := 4) rfl dX5_makeCartans_4 ?_
  refine gf_X5_19 (pc := 7) rfl dX5_makeCartans_7 ?_
  refine sm_icmp_ge (pc := 10) (tgt := 85) dX5_makeCartans_10 (by decide) ?_ ?_
  · skip
    exact sm_vreturn (pc := 85) dX5_makeCartans_85 rfl
  · skip
    refine sm_iconst (pc := 13) dX5_makeCartans_13 zc_i_0 ?_
    refine sm_istore_n (pc := 14) (n := 2) dX5_makeCartans_14 rfl ?_
    exact sm_loop (fun r15 hr15 => slX5_makeCartans_15 P r15 r2 hr15 hr2) _
noncomputable def b_X5_makeCartans {d : Nat} (P : zP d) : zK d := (xpI 0 (xist 1 (xloop (fun r2 => (lX5_makeCartans_2 P r2)) 100000)))
set_option maxRecDepth 100000 in
set_option maxHeartbeats 4000000 in
theorem s_X5_makeCartans {d : Nat} [zGh] (P : zP d) : zSim X_X5_makeCartans 1 P 0 (b_X5_makeCartans P) := by
  unfold b_X5_makeCartans
  refine sm_iconst (pc := 0) dX5_makeCartans_0 zc_i_0 ?_
  refine sm_istore_n (pc := 1) (n := 1) dX5_makeCartans_1 rfl ?_
  exact sm_loop (fun r2 hr2 => slX5_makeCartans_2 P r2 hr2) _
noncomputable def f_X5_makeCartans {d : Nat} : List zV → zH d → zP d → Bool := zfn 4 b_X5_makeCartans
theorem m_X5_makeCartans {d : Nat} : zMet (d := d) X_X5_makeCartans yX5_makeCartans 1 f_X5_makeCartans := zmet_mk (X := X_X5_makeCartans) (by decide) rfl rfl s_X5_makeCartans

abbrev X_X5_makeProjectives : zM := (RX5, cX5_makeProjectives, 4, none, "makeProjectives")
noncomputable def cX5_makeProjectives_66 {d : Nat} (P : zP d) (r28 : zK d) : zK d := (xald1 0 (xbin zmul (xbin zadd (xast1 0 (fun v => v) (xinc 3 1 r28)))))
set_option maxRecDepth 100000 in
set_option maxHeartbeats 4000000 in
theorem scX5_makeProjectives_66 {d : Nat} [zGh] (P : zP d) (r28 : zK d) (hr28 : zSim X_X5_makeProjectives 1 P 28 r28) : zSim X_X5_makeProjectives 1 P 66 (cX5_makeProjectives_66 P r28) := by
  unfold cX5_makeProjectives_66
  refine sm_iaload (pc := 66) dX5_makeProjectives_66 ?_
  refine sm_imul (pc := 67) dX5_makeProjectives_67 ?_
  refine sm_iadd (pc := 68) dX5_makeProjectives_68 ?_
  refine sm_iastore (pc := 69) dX5_makeProjectives_69 ?_
  refine sm_iinc (pc := 70) (n := 3) dX5_makeProjectives_70 zc_i_1 ?_
  refine sm_goto (pc := 73) (tgt := 28) dX5_makeProjectives_73 (by decide) ?_
  exact hr28
noncomputable def lX5_makeProjectives_28 {d : Nat} (P : zP d) (r15 : zK d) (r28 : zK d) : zK d := (xild 3 (xald 0 (xgfR 21 0 (xgfI 23 1 (xcmp tge (xinc 2 1 r15) (xald 0 (xgfR 21 9 (xild 2 (xaal (xild 3 (xdup2 (xald1 0 (xald 0 (xgfR 21 7 (xild 1 (xaal (xild 2 (xald1 0 (xald 0 (xgfR 21 0 (xgfR 23 12 (xild 1 (xaal (xild 3 (cX5_makeProjectives_66 P r28)))))))))))))))))))))))))
set_option maxRecDepth 100000 in
set_option maxHeartbeats 4000000 in
theorem slX5_makeProjectives_28 {d : Nat} [zGh] (P : zP d) (r15 : zK d) (r28 : zK d) (hr15 : zSim X_X5_makeProjectives 1 P 15 r15) (hr28 : zSim X_X5_makeProjectives 1 P 28 r28) : zSim X_X5_makeProjectives 1 P 28 (lX5_makeProjectives_28 P r15 r28) := by
  unfold lX5_makeProjectives_28
  refine sm_iload_n (pc := 28) (n := 3) dX5_makeProjectives_28 rfl ?_
  refine sm_aload_n (pc := 29) (n := 0) dX5_makeProjectives_29 rfl ?_
  refine gf_X5_9 (pc := 30) rfl dX5_makeProjectives_30 ?_
  refine gf_X5_19 (pc := 33) rfl dX5_makeProjectives_33 ?_
  refine sm_icmp_ge (pc := 36) (tgt := 76) dX5_makeProjectives_36 (by decide) ?_ ?_
  · skip
    refine sm_iinc (pc := 76) (n := 2) dX5_makeProjectives_76 zc_i_1 ?_
    refine sm_goto (pc := 79) (tgt := 15) dX5_makeProjectives_79 (by decide) ?_
    exact hr15
  · skip
    refine sm_aload_n (pc := 39) (n := 0) dX5_makeProjectives_39 rfl ?_
    refine gf_X5_55 (pc := 40) rfl dX5_makeProjectives_40 ?_
    refine sm_iload_n (pc := 43) (n := 2) dX5_makeProjectives_43 rfl ?_
    refine sm_aaload (pc := 44) dX5_makeProjectives_44 ?_
    refine sm_iload_n (pc := 45) (n := 3) dX5_makeProjectives_45 rfl ?_
    refine sm_dup2 (pc := 46) dX5_makeProjectives_46 ?_
    refine sm_iaload (pc := 47) dX5_makeProjectives_47 ?_
    refine sm_aload_n (pc := 48) (n := 0) dX5_makeProjectives_48 rfl ?_
    refine gf_X5_46 (pc := 49) rfl dX5_makeProjectives_49 ?_
    refine sm_iload_n (pc := 52) (n := 1) dX5_makeProjectives_52 rfl ?_
    refine sm_aaload (pc := 53) dX5_makeProjectives_53 ?_
    refine sm_iload_n (pc := 54) (n := 2) dX5_makeProjectives_54 rfl ?_
    refine sm_iaload (pc := 55) dX5_makeProjectives_55 ?_
    refine sm_aload_n (pc := 56) (n := 0) dX5_makeProjectives_56 rfl ?_
    refine gf_X5_9 (pc := 57) rfl dX5_makeProjectives_57 ?_
    refine gf_X5_129 (pc := 60) rfl dX5_makeProjectives_60 ?_
    refine sm_iload_n (pc := 63) (n := 1) dX5_makeProjectives_63 rfl ?_
    refine sm_aaload (pc := 64) dX5_makeProjectives_64 ?_
    refine sm_iload_n (pc := 65) (n := 3) dX5_makeProjectives_65 rfl ?_
    exact scX5_makeProjectives_66 P r28 hr28
noncomputable def lX5_makeProjectives_15 {d : Nat} (P : zP d) (r15 : zK d) (r2 : zK d) : zK d := (xild 2 (xald 0 (xgfR 21 0 (xgfI 23 1 (xcmp tge (xinc 1 1 r2) (xpI 0 (xist 3 (xloop (fun r28 => (lX5_makeProjectives_28 P r15 r28)) 100000))))))))
set_option maxRecDepth 100000 in
set_option maxHeartbeats 4000000 in
theorem slX5_makeProjectives_15 {d : Nat} [zGh] (P : zP d) (r15 : zK d) (r2 : zK d) (hr15 : zSim X_X5_makeProjectives 1 P 15 r15) (hr2 : zSim X_X5_makeProjectives 1 P 2 r2) : zSim X_X5_makeProjectives 1 P 15 (lX5_makeProjectives_15 P r15 r2) := by
  unfold lX5_makeProjectives_15
  refine sm_iload_n (pc := 15) (n := 2) dX5_makeProjectives_15 rfl ?_
  refine sm_aload_n (pc := 16) (n := 0) dX5_makeProjectives_16 rfl ?_
  refine gf_X5_9 (pc := 17) rfl dX5_makeProjectives_17 ?_
  refine gf_X5_19 (pc := 20) rfl dX5_makeProjectives_20 ?_
  refine sm_icmp_ge (pc := 23) (tgt := 82) dX5_makeProjectives_23 (by decide) ?_ ?_
  · skip
    refine sm_iinc (pc := 82) (n := 1) dX5_makeProjectives_82 zc_i_1 ?_
    refine sm_goto (pc := 85) (tgt := 2) dX5_makeProjectives_85 (by decide) ?_
    exact hr2
  · skip
    refine sm_iconst (pc := 26) dX5_makeProjectives_26 zc_i_0 ?_
    refine sm_istore_n (pc := 27) (n := 3) dX5_makeProjectives_27 rfl ?_
    exact sm_loop (fun r28 hr28 => slX5_makeProjectives_28 P r15 r28 hr15 hr28) _
noncomputable def lX5_makeProjectives_2 {d : Nat} (P : zP d) (r2 : zK d) : zK d := (xild 1 (xald 0 (xgfR 21 0 (xgfI 23 1 (xcmp tge (xvret P) (xpI 0 (xist 2 (xloop (fun r15 => (lX5_makeProjectives_15 P r15 r2)) 100000))))))))
set_option maxRecDepth 100000 in
set_option maxHeartbeats 4000000 in
theorem slX5_makeProjectives_2 {d : Nat} [zGh] (P : zP d) (r2 : zK d) (hr2 : zSim X_X5_makeProjectives 1 P 2 r2) : zSim X_X5_makeProjectives 1 P 2 (lX5_makeProjectives_2 P r2) := by
  unfold lX5_makeProjectives_2
  refine sm_iload_n (pc := 2) (n := 1) dX5_makeProjectives_2 rfl ?_
  refine sm_aload_n (pc := 3) (n := 0) dX5_makeProjectives_3 rfl ?_
  refine gf_X5_9 (pc := 4) rfl dX5_makeProjectives_4 ?_
  refine gf_X5_19 (pc := 7) rfl dX5_makeProjectives_7 ?_
  refine sm_icmp_ge (pc := 10) (tgt := 88) dX5_makeProjectives_10 (by decide) ?_ ?_
  · skip
    exact sm_vreturn (pc := 88) dX5_makeProjectives_88 rfl
  · skip
    refine sm_iconst (pc := 13) dX5_makeProjectives_13 zc_i_0 ?_
    refine sm_istore_n (pc := 14) (n := 2) dX5_makeProjectives_14 rfl ?_
    exact sm_loop (fun r15 hr15 => slX5_makeProjectives_15 P r15 r2 hr15 hr2) _
noncomputable def b_X5_makeProjectives {d : Nat} (P : zP d) : zK d := (xpI 0 (xist 1 (xloop (fun r2 => (lX5_makeProjectives_2 P r2)) 100000)))
set_option maxRecDepth 100000 in
set_option maxHeartbeats 4000000 in
theorem s_X5_makeProjectives {d : Nat} [zGh] (P : zP d) : zSim X_X5_makeProjectives 1 P 0 (b_X5_makeProjectives P) := by
  unfold b_X5_makeProjectives
  refine sm_iconst (pc := 0) dX5_makeProjectives_0 zc_i_0 ?_
  refine sm_istore_n (pc := 1) (n := 1) dX5_makeProjectives_1 rfl ?_
  exact sm_loop (fun r2 hr2 => slX5_makeProjectives_2 P r2 hr2) _
noncomputable def f_X5_makeProjectives {d : Nat} : List zV → zH d → zP d → Bool := zfn 4 b_X5_makeProjectives
theorem m_X5_makeProjectives {d : Nat} : zMet (d := d) X_X5_makeProjectives yX5_makeProjectives 1 f_X5_makeProjectives := zmet_mk (X := X_X5_makeProjectives) (by decide) rfl rfl s_X5_makeProjectives

abbrev X_X5_determinant : zM := (RX5, cX5_determinant, 9, (some .long), "determinant")
noncomputable def bX5_determinant_134 {d : Nat} (P : zP d) : zK d := (xlret P)
set_option maxRecDepth 100000 in
set_option maxHeartbeats 4000000 in
theorem sbX5_determinant_134 {d : Nat} [zGh] (P : zP d) : zSim X_X5_determinant 1 P 134 (bX5_determinant_134 P) := by
  unfold bX5_determinant_134
  exact sm_lreturn (pc := 134) dX5_determinant_134 rfl
noncomputable def bX5_determinant_90 {d : Nat} (P : zP d) (r31 : zK d) : zK d := (xlas (xinc 6 1 r31))
set_option maxRecDepth 100000 in
set_option maxHeartbeats 4000000 in
theorem sbX5_determinant_90 {d : Nat} [zGh] (P : zP d) (r31 : zK d) (hr31 : zSim X_X5_determinant 1 P 31 r31) : zSim X_X5_determinant 1 P 90 (bX5_determinant_90 P r31) := by
  unfold bX5_determinant_90
  refine sm_lastore (pc := 90) dX5_determinant_90 ?_
  refine sm_iinc (pc := 91) (n := 6) dX5_determinant_91 zc_i_1 ?_
  refine sm_goto (pc := 94) (tgt := 31) dX5_determinant_94 (by decide) ?_
  exact hr31
noncomputable def cX5_determinant_66 {d : Nat} (P : zP d) (r31 : zK d) : zK d := (xbinj zmulj (xbinj zsubj (xlst 7 (xald 0 (xild 5 (xaal (xild 6 (xlld 2 (xpL 0 (xlcmp (xjoin (bX5_determinant_90 P r31) (fun j90 => (xif0 t0eq (xpL 0 j90) (xlld 7 (xlld 2 (xbinjN zdivj j90))))))))))))))))
set_option maxRecDepth 100000 in
set_option maxHeartbeats 4000000 in
theorem scX5_determinant_66 {d : Nat} [zGh] (P : zP d) (r31 : zK d) (hr31 : zSim X_X5_determinant 1 P 31 r31) : zSim X_X5_determinant 1 P 66 (cX5_determinant_66 P r31) := by
  unfold cX5_determinant_66
  refine sm_lmul (pc := 66) dX5_determinant_66 ?_
  refine sm_lsub (pc := 67) dX5_determinant_67 ?_
  refine sm_lstore (pc := 68) (n := 7) dX5_determinant_68 ?_
  refine sm_aload_n (pc := 70) (n := 0) dX5_determinant_70 rfl ?_
  refine sm_iload (pc := 71) (n := 5) dX5_determinant_71 ?_
  refine sm_aaload (pc := 73) dX5_determinant_73 ?_
  refine sm_iload (pc := 74) (n := 6) dX5_determinant_74 ?_
  refine sm_lload_n (pc := 76) (n := 2) dX5_determinant_76 rfl ?_
  refine sm_lconst (pc := 77) dX5_determinant_77 zc_l_0 ?_
  refine sm_lcmp (pc := 78) dX5_determinant_78 ?_
  refine sm_join (pc := 79) (pc' := 90) (sbX5_determinant_90 P r31 hr31) (fun j90 hj90 => ?_)
  refine sm_if_eq (pc := 79) (tgt := 89) dX5_determinant_79 (by decide) ?_ ?_
  · skip
    refine sm_lconst (pc := 89) dX5_determinant_89 zc_l_0 ?_
    exact hj90
  · skip
    refine sm_lload (pc := 82) (n := 7) dX5_determinant_82 ?_
    refine sm_lload_n (pc := 84) (n := 2) dX5_determinant_84 rfl ?_
    refine sm_ldiv (pc := 85) dX5_determinant_85 ?_
    refine sm_goto (pc := 86) (tgt := 90) dX5_determinant_86 (by decide) ?_
    exact hj90
noncomputable def lX5_determinant_31 {d : Nat} (P : zP d) (r19 : zK d) (r31 : zK d) : zK d := (xild 6 (xild 1 (xcmp tge (xinc 5 1 r19) (xald 0 (xild 5 (xaal (xild 6 (xlal (xald 0 (xild 4 (xaal (xild 4 (xlal (xbinj zmulj (xald 0 (xild 5 (xaal (xild 4 (xlal (xald 0 (xild 4 (xaal (xild 6 (xlal (cX5_determinant_66 P r31)))))))))))))))))))))))))
set_option maxRecDepth 100000 in
set_option maxHeartbeats 4000000 in
theorem slX5_determinant_31 {d : Nat} [zGh] (P : zP d) (r19 : zK d) (r31 : zK d) (hr19 : zSim X_X5_determinant 1 P 19 r19) (hr31 : zSim X_X5_determinant 1 P 31 r31) : zSim X_X5_determinant 1 P 31 (lX5_determinant_31 P r19 r31) := by
  unfold lX5_determinant_31
  refine sm_iload (pc := 31) (n := 6) dX5_determinant_31 ?_
  refine sm_iload_n (pc := 33) (n := 1) dX5_determinant_33 rfl ?_
  refine sm_icmp_ge (pc := 34) (tgt := 97) dX5_determinant_34 (by decide) ?_ ?_
  · skip
    refine sm_iinc (pc := 97) (n := 5) dX5_determinant_97 zc_i_1 ?_
    refine sm_goto (pc := 100) (tgt := 19) dX5_determinant_100 (by decide) ?_
    exact hr19
  · skip
    refine sm_aload_n (pc := 37) (n := 0) dX5_determinant_37 rfl ?_
    refine sm_iload (pc := 38) (n := 5) dX5_determinant_38 ?_
    refine sm_aaload (pc := 40) dX5_determinant_40 ?_
    refine sm_iload (pc := 41) (n := 6) dX5_determinant_41 ?_
    refine sm_laload (pc := 43) dX5_determinant_43 ?_
    refine sm_aload_n (pc := 44) (n := 0) dX5_determinant_44 rfl ?_
    refine sm_iload (pc := 45) (n := 4) dX5_determinant_45 ?_
    refine sm_aaload (pc := 47) dX5_determinant_47 ?_
    refine sm_iload (pc := 48) (n := 4) dX5_determinant_48 ?_
    refine sm_laload (pc := 50) dX5_determinant_50 ?_
    refine sm_lmul (pc := 51) dX5_determinant_51 ?_
    refine sm_aload_n (pc := 52) (n := 0) dX5_determinant_52 rfl ?_
    refine sm_iload (pc := 53) (n := 5) dX5_determinant_53 ?_
    refine sm_aaload (pc := 55) dX5_determinant_55 ?_
    refine sm_iload (pc := 56) (n := 4) dX5_determinant_56 ?_
    refine sm_laload (pc := 58) dX5_determinant_58 ?_
    refine sm_aload_n (pc := 59) (n := 0) dX5_determinant_59 rfl ?_
    refine sm_iload (pc := 60) (n := 4) dX5_determinant_60 ?_
    refine sm_aaload (pc := 62) dX5_determinant_62 ?_
    refine sm_iload (pc := 63) (n := 6) dX5_determinant_63 ?_
    refine sm_laload (pc := 65) dX5_determinant_65 ?_
    exact scX5_determinant_66 P r31 hr31
noncomputable def lX5_determinant_19 {d : Nat} (P : zP d) (r19 : zK d) (r5 : zK d) : zK d := (xild 5 (xild 1 (xcmp tge (xald 0 (xild 4 (xaal (xild 4 (xlal (xlst 2 (xinc 4 1 r5))))))) (xild 4 (xpI 1 (xbin zadd (xist 6 (xloop (fun r31 => (lX5_determinant_31 P r19 r31)) 100000))))))))
set_option maxRecDepth 100000 in
set_option maxHeartbeats 4000000 in
theorem slX5_determinant_19 {d : Nat} [zGh] (P : zP d) (r19 : zK d) (r5 : zK d) (hr19 : zSim X_X5_determinant 1 P 19 r19) (hr5 : zSim X_X5_determinant 1 P 5 r5) : zSim X_X5_determinant 1 P 19 (lX5_determinant_19 P r19 r5) := by
  unfold lX5_determinant_19
  refine sm_iload (pc := 19) (n := 5) dX5_determinant_19 ?_
  refine sm_iload_n (pc := 21) (n := 1) dX5_determinant_21 rfl ?_
  refine sm_icmp_ge (pc := 22) (tgt := 103) dX5_determinant_22 (by decide) ?_ ?_
  · skip
    refine sm_aload_n (pc := 103) (n := 0) dX5_determinant_103 rfl ?_
    refine sm_iload (pc := 104) (n := 4) dX5_determinant_104 ?_
    refine sm_aaload (pc := 106) dX5_determinant_106 ?_
    refine sm_iload (pc := 107) (n := 4) dX5_determinant_107 ?_
    refine sm_laload (pc := 109) dX5_determinant_109 ?_
    refine sm_lstore_n (pc := 110) (n := 2) dX5_determinant_110 rfl ?_
    refine sm_iinc (pc := 111) (n := 4) dX5_determinant_111 zc_i_1 ?_
    refine sm_goto (pc := 114) (tgt := 5) dX5_determinant_114 (by decide) ?_
    exact hr5
  · skip
    refine sm_iload (pc := 25) (n := 4) dX5_determinant_25 ?_
    refine sm_iconst (pc := 27) dX5_determinant_27 zc_i_1 ?_
    refine sm_iadd (pc := 28) dX5_determinant_28 ?_
    refine sm_istore (pc := 29) (n := 6) dX5_determinant_29 ?_
    exact sm_loop (fun r31 hr31 => slX5_determinant_31 P r19 r31 hr19 hr31) _
noncomputable def lX5_determinant_5 {d : Nat} (P : zP d) (r5 : zK d) : zK d := (xild 4 (xpI 1 (xbin zadd (xild 1 (xcmp tge (xild 1 (xjoin (bX5_determinant_134 P) (fun j134 => (xif0 t0le (xpL 1 j134) (xald 0 (xild 1 (xpI 1 (xbin zsub (xaal (xild 1 (xpI 1 (xbin zsub (xlal j134))))))))))))) (xild 4 (xpI 1 (xbin zadd (xist 5 (xloop (fun r19 => (lX5_determinant_19 P r19 r5)) 100000))))))))))
set_option maxRecDepth 100000 in
set_option maxHeartbeats 4000000 in
theorem slX5_determinant_5 {d : Nat} [zGh] (P : zP d) (r5 : zK d) (hr5 : zSim X_X5_determinant 1 P 5 r5) : zSim X_X5_determinant 1 P 5 (lX5_determinant_5 P r5) := by
  unfold lX5_determinant_5
  refine sm_iload (pc := 5) (n := 4) dX5_determinant_5 ?_
  refine sm_iconst (pc := 7) dX5_determinant_7 zc_i_1 ?_
  refine sm_iadd (pc := 8) dX5_determinant_8 ?_
  refine sm_iload_n (pc := 9) (n := 1) dX5_determinant_9 rfl ?_
  refine sm_icmp_ge (pc := 10) (tgt := 117) dX5_determinant_10 (by decide) ?_ ?_
  · skip
    refine sm_iload_n (pc := 117) (n := 1) dX5_determinant_117 rfl ?_
    refine sm_join (pc := 118) (pc' := 134) (sbX5_determinant_134 P) (fun j134 hj134 => ?_)
    refine sm_if_le (pc := 118) (tgt := 133) dX5_determinant_118 (by decide) ?_ ?_
    · skip
      refine sm_lconst (pc := 133) dX5_determinant_133 zc_l_1 ?_
      exact hj134
    · skip
      refine sm_aload_n (pc := 121) (n := 0) dX5_determinant_121 rfl ?_
      refine sm_iload_n (pc := 122) (n := 1) dX5_determinant_122 rfl ?_
      refine sm_iconst (pc := 123) dX5_determinant_123 zc_i_1 ?_
      refine sm_isub (pc := 124) dX5_determinant_124 ?_
      refine sm_aaload (pc := 125) dX5_determinant_125 ?_
      refine sm_iload_n (pc := 126) (n := 1) dX5_determinant_126 rfl ?_
      refine sm_iconst (pc := 127) dX5_determinant_127 zc_i_1 ?_
      refine sm_isub (pc := 128) dX5_determinant_128 ?_
      refine sm_laload (pc := 129) dX5_determinant_129 ?_
      refine sm_goto (pc := 130) (tgt := 134) dX5_determinant_130 (by decide) ?_
      exact hj134
  · skip
    refine sm_iload (pc := 13) (n := 4) dX5_determinant_13 ?_
    refine sm_iconst (pc := 15) dX5_determinant_15 zc_i_1 ?_
    refine sm_iadd (pc := 16) dX5_determinant_16 ?_
    refine sm_istore (pc := 17) (n := 5) dX5_determinant_17 ?_
    exact sm_loop (fun r19 hr19 => slX5_determinant_19 P r19 r5 hr19 hr5) _
noncomputable def b_X5_determinant {d : Nat} (P : zP d) : zK d := (xpL 1 (xlst 2 (xpI 0 (xist 4 (xloop (fun r5 => (lX5_determinant_5 P r5)) 100000)))))
set_option maxRecDepth 100000 in
set_option maxHeartbeats 4000000 in
theorem s_X5_determinant {d : Nat} [zGh] (P : zP d) : zSim X_X5_determinant 1 P 0 (b_X5_determinant P) := by
  unfold b_X5_determinant
  refine sm_lconst (pc := 0) dX5_determinant_0 zc_l_1 ?_
  refine sm_lstore_n (pc := 1) (n := 2) dX5_determinant_1 rfl ?_
  refine sm_iconst (pc := 2) dX5_determinant_2 zc_i_0 ?_
  refine sm_istore (pc := 3) (n := 4) dX5_determinant_3 ?_
  exact sm_loop (fun r5 hr5 => slX5_determinant_5 P r5 hr5) _
noncomputable def f_X5_determinant {d : Nat} : List zV → zH d → zP d → Bool := zfn 9 b_X5_determinant
theorem m_X5_determinant {d : Nat} : zMet (d := d) X_X5_determinant yX5_determinant 1 f_X5_determinant := zmet_mk (X := X_X5_determinant) (by decide) rfl rfl s_X5_determinant

abbrev X_X5_makeDeterminants : zM := (RX5, cX5_makeDeterminants, 7, none, "makeDeterminants")
noncomputable def lX5_makeDeterminants_102 {d : Nat} (P : zP d) (r102 : zK d) (r92 : zK d) : zK d := (xild 6 (xild 4 (xcmp tge (xinc 5 1 r92) (xald 1 (xild 5 (xaal (xild 6 (xald 0 (xgfR 21 8 (xald 2 (xild 5 (xald1 0 (xaal (xald 2 (xild 6 (xald1 0 (xald1 0 (xi2l (xlas (xinc 6 1 r102))))))))))))))))))))
set_option maxRecDepth 100000 in
set_option maxHeartbeats 4000000 in
theorem slX5_makeDeterminants_102 {d : Nat} [zGh] (P : zP d) (r102 : zK d) (r92 : zK d) (hr102 : zSim X_X5_makeDeterminants 2 P 102 r102) (hr92 : zSim X_X5_makeDeterminants 2 P 92 r92) : zSim X_X5_makeDeterminants 2 P 102 (lX5_makeDeterminants_102 P r102 r92) := by
  unfold lX5_makeDeterminants_102
  refine sm_iload (pc := 102) (n := 6) dX5_makeDeterminants_102 ?_
  refine sm_iload (pc := 104) (n := 4) dX5_makeDeterminants_104 ?_
  refine sm_icmp_ge (pc := 106) (tgt := 137) dX5_makeDeterminants_106 (by decide) ?_ ?_
  · skip
    refine sm_iinc (pc := 137) (n := 5) dX5_makeDeterminants_137 zc_i_1 ?_
    refine sm_goto (pc := 140) (tgt := 92) dX5_makeDeterminants_140 (by decide) ?_
    exact hr92
  · skip
    refine sm_aload_n (pc := 109) (n := 1) dX5_makeDeterminants_109 rfl ?_
    refine sm_iload (pc := 110) (n := 5) dX5_makeDeterminants_110 ?_
    refine sm_aaload (pc := 112) dX5_makeDeterminants_112 ?_
    refine sm_iload (pc := 113) (n := 6) dX5_makeDeterminants_113 ?_
    refine sm_aload_n (pc := 115) (n := 0) dX5_makeDeterminants_115 rfl ?_
    refine gf_X5_52 (pc := 116) rfl dX5_makeDeterminants_116 ?_
    refine sm_aload_n (pc := 119) (n := 2) dX5_makeDeterminants_119 rfl ?_
    refine sm_iload (pc := 120) (n := 5) dX5_makeDeterminants_120 ?_
    refine sm_iaload (pc := 122) dX5_makeDeterminants_122 ?_
    refine sm_aaload (pc := 123) dX5_makeDeterminants_123 ?_
    refine sm_aload_n (pc := 124) (n := 2) dX5_makeDeterminants_124 rfl ?_
    refine sm_iload (pc := 125) (n := 6) dX5_makeDeterminants_125 ?_
    refine sm_iaload (pc := 127) dX5_makeDeterminants_127 ?_
    refine sm_iaload (pc := 128) dX5_makeDeterminants_128 ?_
    refine sm_i2l (pc := 129) dX5_makeDeterminants_129 ?_
    refine sm_lastore (pc := 130) dX5_makeDeterminants_130 ?_
    refine sm_iinc (pc := 131) (n := 6) dX5_makeDeterminants_131 zc_i_1 ?_
    refine sm_goto (pc := 134) (tgt := 102) dX5_makeDeterminants_134 (by decide) ?_
    exact hr102
noncomputable def lX5_makeDeterminants_92 {d : Nat} (P : zP d) (r22 : zK d) (r92 : zK d) : zK d := (xild 5 (xild 4 (xcmp tge (xald 0 (xgfR 21 11 (xild 3 (xald 1 (xild 4 (xcS 2 0 0 f_X5_determinant (xl2i (xast1 0 (fun v => v) (xinc 3 1 r22))))))))) (xpI 0 (xist 6 (xloop (fun r102 => (lX5_makeDeterminants_102 P r102 r92)) 100000))))))
set_option maxRecDepth 100000 in
set_option maxHeartbeats 4000000 in
theorem slX5_makeDeterminants_92 {d : Nat} [zGh] (P : zP d) (r22 : zK d) (r92 : zK d) (hr22 : zSim X_X5_makeDeterminants 2 P 22 r22) (hr92 : zSim X_X5_makeDeterminants 2 P 92 r92) : zSim X_X5_makeDeterminants 2 P 92 (lX5_makeDeterminants_92 P r22 r92) := by
  unfold lX5_makeDeterminants_92
  refine sm_iload (pc := 92) (n := 5) dX5_makeDeterminants_92 ?_
  refine sm_iload (pc := 94) (n := 4) dX5_makeDeterminants_94 ?_
  refine sm_icmp_ge (pc := 96) (tgt := 143) dX5_makeDeterminants_96 (by decide) ?_ ?_
  · skip
    refine sm_aload_n (pc := 143) (n := 0) dX5_makeDeterminants_143 rfl ?_
    refine gf_X5_74 (pc := 144) rfl dX5_makeDeterminants_144 ?_
    refine sm_iload_n (pc := 147) (n := 3) dX5_makeDeterminants_147 rfl ?_
    refine sm_aload_n (pc := 148) (n := 1) dX5_makeDeterminants_148 rfl ?_
    refine sm_iload (pc := 149) (n := 4) dX5_makeDeterminants_149 ?_
    refine sm_cS (pc := 151) (n := 2) (mc := 0) (ms := 0) m_X5_determinant (cr_X5_173 (X := X_X5_makeDeterminants) (fr := 2) (frc := 1) (pc := 151) (mc := 0) (ms := 0) rfl (by decide) dX5_makeDeterminants_151) ?_
    refine sm_l2i (pc := 154) dX5_makeDeterminants_154 ?_
    refine sm_iastore (pc := 155) dX5_makeDeterminants_155 ?_
    refine sm_iinc (pc := 156) (n := 3) dX5_makeDeterminants_156 zc_i_1 ?_
    refine sm_goto (pc := 159) (tgt := 22) dX5_makeDeterminants_159 (by decide) ?_
    exact hr22
  · skip
    refine sm_iconst (pc := 99) dX5_makeDeterminants_99 zc_i_0 ?_
    refine sm_istore (pc := 100) (n := 6) dX5_makeDeterminants_100 ?_
    exact sm_loop (fun r102 hr102 => slX5_makeDeterminants_102 P r102 r92 hr102 hr92) _
noncomputable def bX5_makeDeterminants_83 {d : Nat} (P : zP d) (r39 : zK d) : zK d := (xinc 5 1 r39)
set_option maxRecDepth 100000 in
set_option maxHeartbeats 4000000 in
theorem sbX5_makeDeterminants_83 {d : Nat} [zGh] (P : zP d) (r39 : zK d) (hr39 : zSim X_X5_makeDeterminants 2 P 39 r39) : zSim X_X5_makeDeterminants 2 P 83 (bX5_makeDeterminants_83 P r39) := by
  unfold bX5_makeDeterminants_83
  refine sm_iinc (pc := 83) (n := 5) dX5_makeDeterminants_83 zc_i_1 ?_
  refine sm_goto (pc := 86) (tgt := 39) dX5_makeDeterminants_86 (by decide) ?_
  exact hr39
noncomputable def lX5_makeDeterminants_39 {d : Nat} (P : zP d) (r22 : zK d) (r39 : zK d) : zK d := (xild 5 (xald 0 (xgfR 21 0 (xgfI 23 1 (xcmp tge (xpI 0 (xist 5 (xloop (fun r92 => (lX5_makeDeterminants_92 P r22 r92)) 100000))) (xald 0 (xild 5 (xcV 21 2 0 0 f_X5_isRegular (xjoin (bX5_makeDeterminants_83 P r39) (fun j83 => (xif0 t0eq j83 (xald 0 (xgfR 21 10 (xgfR 16 2 (xild 5 (xald1 0 (xild 3 (xcmp Nat.beq (xald 2 (xild 4 (xild 5 (xast1 0 (fun v => v) (xinc 4 1 j83))))) j83))))))))))))))))))
set_option maxRecDepth 100000 in
set_option maxHeartbeats 4000000 in
theorem slX5_makeDeterminants_39 {d : Nat} [zGh] (P : zP d) (r22 : zK d) (r39 : zK d) (hr22 : zSim X_X5_makeDeterminants 2 P 22 r22) (hr39 : zSim X_X5_makeDeterminants 2 P 39 r39) : zSim X_X5_makeDeterminants 2 P 39 (lX5_makeDeterminants_39 P r22 r39) := by
  unfold lX5_makeDeterminants_39
  refine sm_iload (pc := 39) (n := 5) dX5_makeDeterminants_39 ?_
  refine sm_aload_n (pc := 41) (n := 0) dX5_makeDeterminants_41 rfl ?_
  refine gf_X5_9 (pc := 42) rfl dX5_makeDeterminants_42 ?_
  refine gf_X5_19 (pc := 45) rfl dX5_makeDeterminants_45 ?_
  refine sm_icmp_ge (pc := 48) (tgt := 89) dX5_makeDeterminants_48 (by decide) ?_ ?_
  · skip
    refine sm_iconst (pc := 89) dX5_makeDeterminants_89 zc_i_0 ?_
    refine sm_istore (pc := 90) (n := 5) dX5_makeDeterminants_90 ?_
    exact sm_loop (fun r92 hr92 => slX5_makeDeterminants_92 P r22 r92 hr22 hr92) _
  · skip
    refine sm_aload_n (pc := 51) (n := 0) dX5_makeDeterminants_51 rfl ?_
    refine sm_iload (pc := 52) (n := 5) dX5_makeDeterminants_52 ?_
    refine sm_cV (pc := 54) (ci := 5) (n := 2) (mc := 0) (ms := 0) rfl m_X5_isRegular (cr_X5_117 (X := X_X5_makeDeterminants) (fr := 2) (frc := 1) (pc := 54) (mc := 0) (ms := 0) rfl (by decide) dX5_makeDeterminants_54) ?_
    refine sm_join (pc := 57) (pc' := 83) (sbX5_makeDeterminants_83 P r39 hr39) (fun j83 hj83 => ?_)
    refine sm_if_eq (pc := 57) (tgt := 83) dX5_makeDeterminants_57 (by decide) ?_ ?_
    · skip
      exact hj83
    · skip
      refine sm_aload_n (pc := 60) (n := 0) dX5_makeDeterminants_60 rfl ?_
      refine gf_X5_69 (pc := 61) rfl dX5_makeDeterminants_61 ?_
      refine gf_X5_170 (pc := 64) rfl dX5_makeDeterminants_64 ?_
      refine sm_iload (pc := 67) (n := 5) dX5_makeDeterminants_67 ?_
      refine sm_iaload (pc := 69) dX5_makeDeterminants_69 ?_
      refine sm_iload_n (pc := 70) (n := 3) dX5_makeDeterminants_70 rfl ?_
      refine sm_icmp_ne (pc := 71) (tgt := 83) dX5_makeDeterminants_71 (by decide) ?_ ?_
      · skip
        exact hj83
      · skip
        refine sm_aload_n (pc := 74) (n := 2) dX5_makeDeterminants_74 rfl ?_
        refine sm_iload (pc := 75) (n := 4) dX5_makeDeterminants_75 ?_
        refine sm_iload (pc := 77) (n := 5) dX5_makeDeterminants_77 ?_
        refine sm_iastore (pc := 79) dX5_makeDeterminants_79 ?_
        refine sm_iinc (pc := 80) (n := 4) dX5_makeDeterminants_80 zc_i_1 ?_
        exact hj83
noncomputable def lX5_makeDeterminants_22 {d : Nat} (P : zP d) (r22 : zK d) : zK d := (xild 3 (xald 0 (xgfR 21 10 (xgfI 16 3 (xcmp tge (xvret P) (xpI 0 (xist 4 (xpI 0 (xist 5 (xloop (fun r39 => (lX5_makeDeterminants_39 P r22 r39)) 100000))))))))))
set_option maxRecDepth 100000 in
set_option maxHeartbeats 4000000 in
theorem slX5_makeDeterminants_22 {d : Nat} [zGh] (P : zP d) (r22 : zK d) (hr22 : zSim X_X5_makeDeterminants 2 P 22 r22) : zSim X_X5_makeDeterminants 2 P 22 (lX5_makeDeterminants_22 P r22) := by
  unfold lX5_makeDeterminants_22
  refine sm_iload_n (pc := 22) (n := 3) dX5_makeDeterminants_22 rfl ?_
  refine sm_aload_n (pc := 23) (n := 0) dX5_makeDeterminants_23 rfl ?_
  refine gf_X5_69 (pc := 24) rfl dX5_makeDeterminants_24 ?_
  refine gf_X5_73 (pc := 27) rfl dX5_makeDeterminants_27 ?_
  refine sm_icmp_ge (pc := 30) (tgt := 162) dX5_makeDeterminants_30 (by decide) ?_ ?_
  · skip
    exact sm_vreturn (pc := 162) dX5_makeDeterminants_162 rfl
  · skip
    refine sm_iconst (pc := 33) dX5_makeDeterminants_33 zc_i_0 ?_
    refine sm_istore (pc := 34) (n := 4) dX5_makeDeterminants_34 ?_
    refine sm_iconst (pc := 36) dX5_makeDeterminants_36 zc_i_0 ?_
    refine sm_istore (pc := 37) (n := 5) dX5_makeDeterminants_37 ?_
    exact sm_loop (fun r39 hr39 => slX5_makeDeterminants_39 P r22 r39 hr22 hr39) _
noncomputable def b_X5_makeDeterminants {d : Nat} (P : zP d) : zK d := (xald 0 (xgfI 21 3 (xald 0 (xgfI 21 3 (xmnaD 4 2 (xast 1 (xald 0 (xgfI 21 3 (xnwa 0 (xast 2 (xpI 0 (xist 3 (xloop (fun r22 => (lX5_makeDeterminants_22 P r22)) 100000)))))))))))))
set_option maxRecDepth 100000 in
set_option maxHeartbeats 4000000 in
theorem s_X5_makeDeterminants {d : Nat} [zGh] (P : zP d) : zSim X_X5_makeDeterminants 2 P 0 (b_X5_makeDeterminants P) := by
  unfold b_X5_makeDeterminants
  refine sm_aload_n (pc := 0) (n := 0) dX5_makeDeterminants_0 rfl ?_
  refine gf_X5_89 (pc := 1) rfl dX5_makeDeterminants_1 ?_
  refine sm_aload_n (pc := 4) (n := 0) dX5_makeDeterminants_4 rfl ?_
  refine gf_X5_89 (pc := 5) rfl dX5_makeDeterminants_5 ?_
  refine sm_mnaDJ (pc := 8) wd_483 wd_45 dX5_makeDeterminants_8 ?_
  refine sm_astore_n (pc := 12) (n := 1) dX5_makeDeterminants_12 rfl ?_
  refine sm_aload_n (pc := 13) (n := 0) dX5_makeDeterminants_13 rfl ?_
  refine gf_X5_89 (pc := 14) rfl dX5_makeDeterminants_14 ?_
  refine sm_newI (pc := 17) dX5_makeDeterminants_17 wd_46 ?_
  refine sm_astore_n (pc := 19) (n := 2) dX5_makeDeterminants_19 rfl ?_
  refine sm_iconst (pc := 20) dX5_makeDeterminants_20 zc_i_0 ?_
  refine sm_istore_n (pc := 21) (n := 3) dX5_makeDeterminants_21 rfl ?_
  exact sm_loop (fun r22 hr22 => slX5_makeDeterminants_22 P r22 hr22) _
noncomputable def f_X5_makeDeterminants {d : Nat} : List zV → zH d → zP d → Bool := zfn 7 b_X5_makeDeterminants
theorem m_X5_makeDeterminants {d : Nat} : zMet (d := d) X_X5_makeDeterminants yX5_makeDeterminants 2 f_X5_makeDeterminants := zmet_mk (X := X_X5_makeDeterminants) (by decide) rfl rfl s_X5_makeDeterminants

abbrev X_X5_init : zM := (RX5, cX5_init, 4, none, "<init>")
noncomputable def cX5_init_89 {d : Nat} (P : zP d) : zK d := (xpfR 21 9 (xald 0 (xcV 21 1 0 0 f_X5_makeCartans (xald 0 (xcV 21 1 0 0 f_X5_makeProjectives (xald 0 (xnew 16 8 (xdup (xald 1 (xild 2 (xald 0 (xgfR 21 2 (xcV 16 4 20 170 f_X0_init (xpfR 21 10 (xald 0 (xald 0 (xgfR 21 10 (xgfI 16 3 (xnwa 0 (xpfR 21 11 (xald 0 (xcV 21 1 15 160 f_X5_makeDeterminants (xvret P)))))))))))))))))))))))
set_option maxRecDepth 100000 in
set_option maxHeartbeats 4000000 in
theorem scX5_init_89 {d : Nat} [zGh] (P : zP d) : zSim X_X5_init 6 P 89 (cX5_init_89 P) := by
  unfold cX5_init_89
  refine pf_X5_55 (pc := 89) rfl rfl dX5_init_89 ?_
  refine sm_aload_n (pc := 92) (n := 0) dX5_init_92 rfl ?_
  refine sm_cV (pc := 93) (ci := 5) (n := 1) (mc := 0) (ms := 0) rfl m_X5_makeCartans (cr_X5_58 (X := X_X5_init) (fr := 6) (frc := 1) (pc := 93) (mc := 0) (ms := 0) rfl (by decide) dX5_init_93) ?_
  refine sm_aload_n (pc := 96) (n := 0) dX5_init_96 rfl ?_
  refine sm_cV (pc := 97) (ci := 5) (n := 1) (mc := 0) (ms := 0) rfl m_X5_makeProjectives (cr_X5_61 (X := X_X5_init) (fr := 6) (frc := 1) (pc := 97) (mc := 0) (ms := 0) rfl (by decide) dX5_init_97) ?_
  refine sm_aload_n (pc := 100) (n := 0) dX5_init_100 rfl ?_
  refine sm_new (pc := 101) (ci := 0) (C := RX0) (T := TX0) (N := 8) (ty0 := tyX0) rfl rfl (by decide) (by decide) inz0 tyX0_ok rfl wd_420 wd_421 wd_11 dX5_init_101 ?_
  refine sm_dup (pc := 104) dX5_init_104 ?_
  refine sm_aload_n (pc := 105) (n := 1) dX5_init_105 rfl ?_
  refine sm_iload_n (pc := 106) (n := 2) dX5_init_106 rfl ?_
  refine sm_aload_n (pc := 107) (n := 0) dX5_init_107 rfl ?_
  refine gf_X5_24 (pc := 108) rfl dX5_init_108 ?_
  refine sm_cV (pc := 111) (ci := 0) (n := 4) (mc := 20) (ms := 170) rfl m_X0_init (cr_X5_66 (X := X_X5_init) (fr := 6) (frc := 3) (pc := 111) (mc := 20) (ms := 170) rfl (by decide) dX5_init_111) ?_
  refine pf_X5_69 (pc := 114) rfl rfl dX5_init_114 ?_
  refine sm_aload_n (pc := 117) (n := 0) dX5_init_117 rfl ?_
  refine sm_aload_n (pc := 118) (n := 0) dX5_init_118 rfl ?_
  refine gf_X5_69 (pc := 119) rfl dX5_init_119 ?_
  refine gf_X5_73 (pc := 122) rfl dX5_init_122 ?_
  refine sm_newI (pc := 125) dX5_init_125 wd_46 ?_
  refine pf_X5_74 (pc := 127) rfl rfl dX5_init_127 ?_
  refine sm_aload_n (pc := 130) (n := 0) dX5_init_130 rfl ?_
  refine sm_cV (pc := 131) (ci := 5) (n := 1) (mc := 15) (ms := 160) rfl m_X5_makeDeterminants (cr_X5_77 (X := X_X5_init) (fr := 6) (frc := 2) (pc := 131) (mc := 15) (ms := 160) rfl (by decide) dX5_init_131) ?_
  exact sm_vreturn (pc := 134) dX5_init_134 rfl
noncomputable def cX5_init_41 {d : Nat} (P : zP d) : zK d := (xpfR 21 5 (xald 0 (xild 3 (xild 3 (xmnaD 3 0 (xpfR 21 6 (xald 0 (xcV 21 1 45 650 f_X5_makeModulars (xald 0 (xild 3 (xild 3 (xmnaD 3 0 (xpfR 21 7 (xald 0 (xcV 21 1 25 350 f_X5_makeDecompositions (xald 0 (xild 3 (xild 3 (xmnaD 3 0 (xpfR 21 8 (xald 0 (xild 3 (xild 3 (xmnaD 3 0 (cX5_init_89 P)))))))))))))))))))))))))
set_option maxRecDepth 100000 in
set_option maxHeartbeats 4000000 in
theorem scX5_init_41 {d : Nat} [zGh] (P : zP d) : zSim X_X5_init 6 P 41 (cX5_init_41 P) := by
  unfold cX5_init_41
  refine pf_X5_35 (pc := 41) rfl rfl dX5_init_41 ?_
  refine sm_aload_n (pc := 44) (n := 0) dX5_init_44 rfl ?_
  refine sm_iload_n (pc := 45) (n := 3) dX5_init_45 rfl ?_
  refine sm_iload_n (pc := 46) (n := 3) dX5_init_46 rfl ?_
  refine sm_mnaDI (pc := 47) wd_339 wd_46 dX5_init_47 ?_
  refine pf_X5_40 (pc := 51) rfl rfl dX5_init_51 ?_
  refine sm_aload_n (pc := 54) (n := 0) dX5_init_54 rfl ?_
  refine sm_cV (pc := 55) (ci := 5) (n := 1) (mc := 45) (ms := 650) rfl m_X5_makeModulars (cr_X5_43 (X := X_X5_init) (fr := 6) (frc := 5) (pc := 55) (mc := 45) (ms := 650) rfl (by decide) dX5_init_55) ?_
  refine sm_aload_n (pc := 58) (n := 0) dX5_init_58 rfl ?_
  refine sm_iload_n (pc := 59) (n := 3) dX5_init_59 rfl ?_
  refine sm_iload_n (pc := 60) (n := 3) dX5_init_60 rfl ?_
  refine sm_mnaDI (pc := 61) wd_339 wd_46 dX5_init_61 ?_
  refine pf_X5_46 (pc := 65) rfl rfl dX5_init_65 ?_
  refine sm_aload_n (pc := 68) (n := 0) dX5_init_68 rfl ?_
  refine sm_cV (pc := 69) (ci := 5) (n := 1) (mc := 25) (ms := 350) rfl m_X5_makeDecompositions (cr_X5_49 (X := X_X5_init) (fr := 6) (frc := 3) (pc := 69) (mc := 25) (ms := 350) rfl (by decide) dX5_init_69) ?_
  refine sm_aload_n (pc := 72) (n := 0) dX5_init_72 rfl ?_
  refine sm_iload_n (pc := 73) (n := 3) dX5_init_73 rfl ?_
  refine sm_iload_n (pc := 74) (n := 3) dX5_init_74 rfl ?_
  refine sm_mnaDI (pc := 75) wd_339 wd_46 dX5_init_75 ?_
  refine pf_X5_52 (pc := 79) rfl rfl dX5_init_79 ?_
  refine sm_aload_n (pc := 82) (n := 0) dX5_init_82 rfl ?_
  refine sm_iload_n (pc := 83) (n := 3) dX5_init_83 rfl ?_
  refine sm_iload_n (pc := 84) (n := 3) dX5_init_84 rfl ?_
  refine sm_mnaDI (pc := 85) wd_339 wd_46 dX5_init_85 ?_
  exact scX5_init_89 P
noncomputable def b_X5_init {d : Nat} (P : zP d) : zK d := (xald 0 (xobj (xald 0 (xald 1 (xpfR 21 0 (xald 0 (xild 2 (xpfI 21 1 (xald 1 (xgfI 23 1 (xist 3 (xald 0 (xild 3 (xnwa 0 (xpfR 21 2 (xald 0 (xild 3 (xnwa 1 (xpfR 21 4 (xald 0 (xcV 21 1 0 0 f_X5_markRegular (xald 0 (xild 3 (xnwa 0 (cX5_init_41 P)))))))))))))))))))))))))
set_option maxRecDepth 100000 in
set_option maxHeartbeats 4000000 in
theorem s_X5_init {d : Nat} [zGh] (P : zP d) : zSim X_X5_init 6 P 0 (b_X5_init P) := by
  unfold b_X5_init
  refine sm_aload_n (pc := 0) (n := 0) dX5_init_0 rfl ?_
  refine sm_objinit (pc := 1) wd_331 wd_21 wd_22 (by decide) dX5_init_1 ?_
  refine sm_aload_n (pc := 4) (n := 0) dX5_init_4 rfl ?_
  refine sm_aload_n (pc := 5) (n := 1) dX5_init_5 rfl ?_
  refine pf_X5_9 (pc := 6) rfl rfl dX5_init_6 ?_
  refine sm_aload_n (pc := 9) (n := 0) dX5_init_9 rfl ?_
  refine sm_iload_n (pc := 10) (n := 2) dX5_init_10 rfl ?_
  refine pf_X5_15 (pc := 11) rfl rfl dX5_init_11 ?_
  refine sm_aload_n (pc := 14) (n := 1) dX5_init_14 rfl ?_
  refine gf_X5_19 (pc := 15) rfl dX5_init_15 ?_
  refine sm_istore_n (pc := 18) (n := 3) dX5_init_18 rfl ?_
  refine sm_aload_n (pc := 19) (n := 0) dX5_init_19 rfl ?_
  refine sm_iload_n (pc := 20) (n := 3) dX5_init_20 rfl ?_
  refine sm_newI (pc := 21) dX5_init_21 wd_46 ?_
  refine pf_X5_24 (pc := 23) rfl rfl dX5_init_23 ?_
  refine sm_aload_n (pc := 26) (n := 0) dX5_init_26 rfl ?_
  refine sm_iload_n (pc := 27) (n := 3) dX5_init_27 rfl ?_
  refine sm_newZ (pc := 28) dX5_init_28 wd_360 ?_
  refine pf_X5_28 (pc := 30) rfl rfl dX5_init_30 ?_
  refine sm_aload_n (pc := 33) (n := 0) dX5_init_33 rfl ?_
  refine sm_cV (pc := 34) (ci := 5) (n := 1) (mc := 0) (ms := 0) rfl m_X5_markRegular (cr_X5_32 (X := X_X5_init) (fr := 6) (frc := 2) (pc := 34) (mc := 0) (ms := 0) rfl (by decide) dX5_init_34) ?_
  refine sm_aload_n (pc := 37) (n := 0) dX5_init_37 rfl ?_
  refine sm_iload_n (pc := 38) (n := 3) dX5_init_38 rfl ?_
  refine sm_newI (pc := 39) dX5_init_39 wd_46 ?_
  exact scX5_init_41 P
noncomputable def f_X5_init {d : Nat} : List zV → zH d → zP d → Bool := zfn 4 b_X5_init
theorem m_X5_init {d : Nat} : zMet (d := d) X_X5_init yX5_init 6 f_X5_init := zmet_mk (X := X_X5_init) (by decide) rfl rfl s_X5_init

