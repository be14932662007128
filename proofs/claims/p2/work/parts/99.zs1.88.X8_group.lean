/-! the class by summaries, by program -/
noncomputable def bX8_groupa_32 {d : Nat} (P : zP d) : zK d := (xpI 4294967295 (xiret P))
set_option maxRecDepth 100000 in
set_option maxHeartbeats 4000000 in
theorem sbX8_groupa_32 {d : Nat} [zGh] (P : zP d) : zSim X_X8_group 13 P 32 (bX8_groupa_32 P) := by
  unfold bX8_groupa_32
  refine sm_iconst (pc := 32) dX8_group_32 zc_i_m1 ?_
  exact sm_ireturn (pc := 33) dX8_group_33 rfl
noncomputable def lX8_groupa_128 {d : Nat} (P : zP d) (r128 : zK d) : zK d := (xild 4 (xpI 6 (xcmpS tgeR rlGe rhS rlS rhLt (xald 0 (xgfR 24 6 (xgfI 23 1 (xiret P)))) (xald 0 (xgfR 24 2 (xild 4 (xaaT (xpL 0 (xcS 2 0 0 (zstr f_J7_fill_d0a16) (xincR 4 1 r128))))))))))
set_option maxRecDepth 100000 in
set_option maxHeartbeats 4000000 in
theorem slX8_groupa_128 {d : Nat} [zGh] (P : zP d) (r128 : zK d) (hr128 : zSimJ 1 X_X8_group 13 P 128 r128) : zSim X_X8_group 13 P 128 (lX8_groupa_128 P r128) := by
  unfold lX8_groupa_128
  refine sm_iload (pc := 128) (n := 4) dX8_group_128 ?_
  refine sm_bipush (pc := 130) dX8_group_130 zc_b_6 ?_
  refine sm_icmpS_ge (pc := 132) (tgt := 152) dX8_group_132 (by decide) ?_ ?_
  · skip
    refine sm_aload_n (pc := 152) (n := 0) dX8_group_152 rfl ?_
    refine gf_X8_40 (pc := 153) rfl dX8_group_153 ?_
    refine gf_X8_74 (pc := 156) rfl dX8_group_156 ?_
    exact sm_ireturn (pc := 159) dX8_group_159 rfl
  · skip
    refine sm_aload_n (pc := 135) (n := 0) dX8_group_135 rfl ?_
    refine gf_X8_23 (pc := 136) rfl dX8_group_136 ?_
    refine sm_iload (pc := 139) (n := 4) dX8_group_139 ?_
    refine sm_aaloadT (pc := 141) dX8_group_141 ?_
    refine sm_lconst (pc := 142) dX8_group_142 zc_l_0 ?_
    refine sm_cS (pc := 143) (n := 2) (mc := 0) (ms := 0) (zMet_str m_J7_fill_d0a16) (cr_X8_68 (X := X_X8_group) (fr := 13) (frc := 1) (pc := 143) (mc := 0) (ms := 0) rfl (by decide) dX8_group_143) ?_
    refine sm_iincR (pc := 146) (n := 4) dX8_group_146 zc_i_1 ?_
    refine sm_goto (pc := 149) (tgt := 128) dX8_group_149 (by decide) ?_
    exact hr128.use
noncomputable def bX8_groupa_100 {d : Nat} (P : zP d) : zK d := (xald 0 (xald 0 (xgfR 24 1 (xild 3 (xaaT (xpfR 24 7 (xald 0 (xgfR 24 5 (xald 0 (xgfR 24 6 (xald 0 (xgfR 24 7 (xcV 18 3 0 0 (zstr f_X2_turnTo) (xpI 0 (xist 4 (xloop (fun r128 => (lX8_groupa_128 P r128)) 100000))))))))))))))))
set_option maxRecDepth 100000 in
set_option maxHeartbeats 4000000 in
theorem sbX8_groupa_100 {d : Nat} [zGh] (P : zP d) : zSim X_X8_group 13 P 100 (bX8_groupa_100 P) := by
  unfold bX8_groupa_100
  refine sm_aload_n (pc := 100) (n := 0) dX8_group_100 rfl ?_
  refine sm_aload_n (pc := 101) (n := 0) dX8_group_101 rfl ?_
  refine gf_X8_17 (pc := 102) rfl dX8_group_102 ?_
  refine sm_iload_n (pc := 105) (n := 3) dX8_group_105 rfl ?_
  refine sm_aaloadT (pc := 106) dX8_group_106 ?_
  refine pf_X8_47 (pc := 107) rfl dX8_group_107 ?_
  refine sm_aload_n (pc := 110) (n := 0) dX8_group_110 rfl ?_
  refine gf_X8_60 (pc := 111) rfl dX8_group_111 ?_
  refine sm_aload_n (pc := 114) (n := 0) dX8_group_114 rfl ?_
  refine gf_X8_40 (pc := 115) rfl dX8_group_115 ?_
  refine sm_aload_n (pc := 118) (n := 0) dX8_group_118 rfl ?_
  refine gf_X8_47 (pc := 119) rfl dX8_group_119 ?_
  refine sm_cV (pc := 122) (ci := 2) (n := 3) (mc := 0) (ms := 0) rfl (zMet_str m_X2_turnTo) (cr_X8_64 (X := X_X8_group) (fr := 13) (frc := 1) (pc := 122) (mc := 0) (ms := 0) rfl (by decide) dX8_group_122) ?_
  refine sm_iconst (pc := 125) dX8_group_125 zc_i_0 ?_
  refine sm_istore (pc := 126) (n := 4) dX8_group_126 ?_
  exact (sm_loopJ (j := 1) (fun G1 hG1 r128 hr128 => @slX8_groupa_128 d G1 P r128 hr128) _).use
noncomputable def cX8_groupa_99 {d : Nat} (P : zP d) (j100 : zK d) : zK d := (xaas 7 21 j100)
set_option maxRecDepth 100000 in
set_option maxHeartbeats 4000000 in
theorem scX8_groupa_99 {d : Nat} [zGh] (P : zP d) (j100 : zK d) (hj100 : zSimJ 1 X_X8_group 13 P 100 j100) : zSim X_X8_group 13 P 99 (cX8_groupa_99 P j100) := by
  unfold cX8_groupa_99
  refine sm_aastore (pc := 99) (kc := 7) (ci := 5) (by decide) (by decide) rfl rfl (fun _ => rfl) dX8_group_99 ?_
  exact hj100.use
noncomputable def bX8_groupa_57 {d : Nat} (P : zP d) : zK d := (xald 0 (xald 0 (xgfR 24 0 (xild 1 (xaaT (xpfR 24 6 (xild 1 (xild 2 (xcS 2 0 0 (zstr f_X8_groupIndex) (xist 3 (xald 0 (xgfR 24 1 (xild 3 (xaaT (xjoin (bX8_groupa_100 P) (fun j100 => (xnn j100 (xald 0 (xgfR 24 1 (xild 3 (xnew 21 12 (xdup (xald 0 (xgfR 24 6 (xild 2 (xcV 21 3 170 2000 (zstr g_X5_init) (cX8_groupa_99 P j100)))))))))))))))))))))))))))
set_option maxRecDepth 100000 in
set_option maxHeartbeats 4000000 in
theorem sbX8_groupa_57 {d : Nat} [zGh] (P : zP d) : zSim X_X8_group 13 P 57 (bX8_groupa_57 P) := by
  unfold bX8_groupa_57
  refine sm_aload_n (pc := 57) (n := 0) dX8_group_57 rfl ?_
  refine sm_aload_n (pc := 58) (n := 0) dX8_group_58 rfl ?_
  refine gf_X8_11 (pc := 59) rfl dX8_group_59 ?_
  refine sm_iload_n (pc := 62) (n := 1) dX8_group_62 rfl ?_
  refine sm_aaloadT (pc := 63) dX8_group_63 ?_
  refine pf_X8_40 (pc := 64) rfl dX8_group_64 ?_
  refine sm_iload_n (pc := 67) (n := 1) dX8_group_67 rfl ?_
  refine sm_iload_n (pc := 68) (n := 2) dX8_group_68 rfl ?_
  refine sm_cS (pc := 69) (n := 2) (mc := 0) (ms := 0) (zMet_str m_X8_groupIndex) (cr_X8_51 (X := X_X8_group) (fr := 13) (frc := 1) (pc := 69) (mc := 0) (ms := 0) rfl (by decide) dX8_group_69) ?_
  refine sm_istore_n (pc := 72) (n := 3) dX8_group_72 rfl ?_
  refine sm_aload_n (pc := 73) (n := 0) dX8_group_73 rfl ?_
  refine gf_X8_17 (pc := 74) rfl dX8_group_74 ?_
  refine sm_iload_n (pc := 77) (n := 3) dX8_group_77 rfl ?_
  refine sm_aaloadT (pc := 78) dX8_group_78 ?_
  refine sm_joinJ (pc := 79) (pc' := 100) (j := 1) (fun G0 hG0 => @sbX8_groupa_100 d G0 P) (fun j100 hj100 => ?_)
  refine sm_ifnonnull (pc := 79) (tgt := 100) dX8_group_79 (by decide) ?_ ?_
  · skip
    exact hj100.use
  · skip
    refine sm_aload_n (pc := 82) (n := 0) dX8_group_82 rfl ?_
    refine gf_X8_17 (pc := 83) rfl dX8_group_83 ?_
    refine sm_iload_n (pc := 86) (n := 3) dX8_group_86 rfl ?_
    refine sm_new (pc := 87) (ci := 5) (C := RX5) (T := TX5) (N := 12) (ty0 := tyX5) rfl rfl (by decide) (by decide) inz5 tyX5_ok rfl wd_25 wd_327 wd_9 dX8_group_87 ?_
    refine sm_dup (pc := 90) dX8_group_90 ?_
    refine sm_aload_n (pc := 91) (n := 0) dX8_group_91 rfl ?_
    refine gf_X8_40 (pc := 92) rfl dX8_group_92 ?_
    refine sm_iload_n (pc := 95) (n := 2) dX8_group_95 rfl ?_
    refine sm_cV (pc := 96) (ci := 5) (n := 3) (mc := 170) (ms := 2000) rfl (zMet_str mg_X5_init) (cr_X8_44 (X := X_X8_group) (fr := 13) (frc := 6) (pc := 96) (mc := 170) (ms := 2000) rfl (by decide) dX8_group_96) ?_
    exact scX8_groupa_99 P j100 hj100
noncomputable def bX8_groupa_34 {d : Nat} (P : zP d) : zK d := (xald 0 (xgfR 24 0 (xild 1 (xaaT (xjoin (bX8_groupa_57 P) (fun j57 => (xnn j57 (xald 0 (xgfR 24 0 (xild 1 (xnew 23 14 (xdup (xild 1 (xcV 23 2 800 77000 (zstr g_X7_init) (xaas 6 23 j57)))))))))))))))
set_option maxRecDepth 100000 in
set_option maxHeartbeats 4000000 in
theorem sbX8_groupa_34 {d : Nat} [zGh] (P : zP d) : zSim X_X8_group 13 P 34 (bX8_groupa_34 P) := by
  unfold bX8_groupa_34
  refine sm_aload_n (pc := 34) (n := 0) dX8_group_34 rfl ?_
  refine gf_X8_11 (pc := 35) rfl dX8_group_35 ?_
  refine sm_iload_n (pc := 38) (n := 1) dX8_group_38 rfl ?_
  refine sm_aaloadT (pc := 39) dX8_group_39 ?_
  refine sm_joinJ (pc := 40) (pc' := 57) (j := 1) (fun G0 hG0 => @sbX8_groupa_57 d G0 P) (fun j57 hj57 => ?_)
  refine sm_ifnonnull (pc := 40) (tgt := 57) dX8_group_40 (by decide) ?_ ?_
  · skip
    exact hj57.use
  · skip
    refine sm_aload_n (pc := 43) (n := 0) dX8_group_43 rfl ?_
    refine gf_X8_11 (pc := 44) rfl dX8_group_44 ?_
    refine sm_iload_n (pc := 47) (n := 1) dX8_group_47 rfl ?_
    refine sm_new (pc := 48) (ci := 7) (C := RX7) (T := TX7) (N := 14) (ty0 := tyX7) rfl rfl (by decide) (by decide) inz7 tyX7_ok rfl wd_23 wd_47 wd_3 dX8_group_48 ?_
    refine sm_dup (pc := 51) dX8_group_51 ?_
    refine sm_iload_n (pc := 52) (n := 1) dX8_group_52 rfl ?_
    refine sm_cV (pc := 53) (ci := 7) (n := 2) (mc := 800) (ms := 77000) rfl (zMet_str mg_X7_init) (cr_X8_37 (X := X_X8_group) (fr := 13) (frc := 12) (pc := 53) (mc := 800) (ms := 77000) rfl (by decide) dX8_group_53) ?_
    refine sm_aastore (pc := 56) (kc := 6) (ci := 7) (by decide) (by decide) rfl rfl (fun _ => rfl) dX8_group_56 ?_
    exact hj57.use
noncomputable def b_X8_groupa {d : Nat} (P : zP d) : zK d := (xild 1 (xpI 1 (xjoin (bX8_groupa_32 P) (fun j32 => (xcmpS tgeR rlGe rhS rlS rhLt (xild 1 (xpI 6 (xcmpS tleR rlS rhLe rlGt rhS (xild 2 (xpI 2 (xjoin (bX8_groupa_34 P) (fun j34 => (xcmpS teqR rlEq rhEq rlNe rhNe j34 (xild 2 (xpI 3 (xcmpS teqR rlEq rhEq rlNe rhNe j34 (xild 2 (xpI 5 (xcmpS teqR rlEq rhEq rlNe rhNe j34 (xild 2 (xpI 7 (xcmpS teqR rlEq rhEq rlNe rhNe j34 j32)))))))))))))) j32))) j32)))))
set_option maxRecDepth 100000 in
set_option maxHeartbeats 4000000 in
theorem s_X8_groupa {d : Nat} [zGh] (P : zP d) : zSim X_X8_group 13 P 0 (b_X8_groupa P) := by
  unfold b_X8_groupa
  refine sm_iload_n (pc := 0) (n := 1) dX8_group_0 rfl ?_
  refine sm_iconst (pc := 1) dX8_group_1 zc_i_1 ?_
  refine sm_joinJ (pc := 2) (pc' := 32) (j := 1) (fun G0 hG0 => @sbX8_groupa_32 d G0 P) (fun j32 hj32 => ?_)
  refine sm_icmpS_lt (pc := 2) (tgt := 32) dX8_group_2 (by decide) ?_ ?_
  · skip
    exact hj32.use
  · skip
    refine sm_iload_n (pc := 5) (n := 1) dX8_group_5 rfl ?_
    refine sm_bipush (pc := 6) dX8_group_6 zc_b_6 ?_
    refine sm_icmpS_gt (pc := 8) (tgt := 32) dX8_group_8 (by decide) ?_ ?_
    · skip
      exact hj32.use
    · skip
      refine sm_iload_n (pc := 11) (n := 2) dX8_group_11 rfl ?_
      refine sm_iconst (pc := 12) dX8_group_12 zc_i_2 ?_
      refine sm_joinJ (pc := 13) (pc' := 34) (j := 1) (fun G0 hG0 => @sbX8_groupa_34 d G0 P) (fun j34 hj34 => ?_)
      refine sm_icmpS_eq (pc := 13) (tgt := 34) dX8_group_13 (by decide) ?_ ?_
      · skip
        exact hj34.use
      · skip
        refine sm_iload_n (pc := 16) (n := 2) dX8_group_16 rfl ?_
        refine sm_iconst (pc := 17) dX8_group_17 zc_i_3 ?_
        refine sm_icmpS_eq (pc := 18) (tgt := 34) dX8_group_18 (by decide) ?_ ?_
        · skip
          exact hj34.use
        · skip
          refine sm_iload_n (pc := 21) (n := 2) dX8_group_21 rfl ?_
          refine sm_iconst (pc := 22) dX8_group_22 zc_i_5 ?_
          refine sm_icmpS_eq (pc := 23) (tgt := 34) dX8_group_23 (by decide) ?_ ?_
          · skip
            exact hj34.use
          · skip
            refine sm_iload_n (pc := 26) (n := 2) dX8_group_26 rfl ?_
            refine sm_bipush (pc := 27) dX8_group_27 zc_b_7 ?_
            refine sm_icmpS_eq (pc := 29) (tgt := 34) dX8_group_29 (by decide) ?_ ?_
            · skip
              exact hj34.use
            · skip
              exact hj32.use
noncomputable def f_X8_groupa {d : Nat} : List zV → zH d → zP d → Bool := zfn 5 b_X8_groupa
theorem m_X8_groupa {d : Nat} : zMet (d := d) X_X8_group yX8_group 13 f_X8_groupa := zmet_mk (X := X_X8_group) (by decide) rfl rfl s_X8_groupa

