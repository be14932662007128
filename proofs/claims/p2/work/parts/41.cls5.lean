/-! the class, by program -/
abbrev X_X2_init : zM := (RX2, cX2_init, 5, none, "<init>")
noncomputable def cX2_init_93 {d : Nat} (P : zP d) : zK d := (xald 4 (xpfR 18 13 (xvret P)))
set_option maxRecDepth 100000 in
set_option maxHeartbeats 4000000 in
theorem scX2_init_93 {d : Nat} [zGh] (P : zP d) : zSim X_X2_init 2 P 93 (cX2_init_93 P) := by
  unfold cX2_init_93
  refine sm_aload (pc := 93) (n := 4) dX2_init_93 ?_
  refine pf_X2_53 (pc := 95) rfl dX2_init_95 ?_
  exact sm_vreturn (pc := 98) dX2_init_98 rfl
noncomputable def cX2_init_50 {d : Nat} (P : zP d) : zK d := (xnwa 0 (xpfR 18 4 (xald 0 (xpI 5 (xnwa 0 (xpfR 18 5 (xald 0 (xpI 5 (xnwa 0 (xpfR 18 6 (xald 0 (xpI 6 (xnwa 0 (xpfR 18 7 (xald 0 (xald 1 (xpfR 18 10 (xald 0 (xald 2 (xpfR 18 11 (xald 0 (xald 3 (xpfR 18 12 (xald 0 (cX2_init_93 P)))))))))))))))))))))))))
set_option maxRecDepth 100000 in
set_option maxHeartbeats 4000000 in
theorem scX2_init_50 {d : Nat} [zGh] (P : zP d) : zSim X_X2_init 2 P 50 (cX2_init_50 P) := by
  unfold cX2_init_50
  refine sm_newI (pc := 50) dX2_init_50 wd_46 ?_
  refine pf_X2_29 (pc := 52) rfl rfl dX2_init_52 ?_
  refine sm_aload_n (pc := 55) (n := 0) dX2_init_55 rfl ?_
  refine sm_iconst (pc := 56) dX2_init_56 zc_i_5 ?_
  refine sm_newI (pc := 57) dX2_init_57 wd_46 ?_
  refine pf_X2_33 (pc := 59) rfl rfl dX2_init_59 ?_
  refine sm_aload_n (pc := 62) (n := 0) dX2_init_62 rfl ?_
  refine sm_iconst (pc := 63) dX2_init_63 zc_i_5 ?_
  refine sm_newI (pc := 64) dX2_init_64 wd_46 ?_
  refine pf_X2_36 (pc := 66) rfl rfl dX2_init_66 ?_
  refine sm_aload_n (pc := 69) (n := 0) dX2_init_69 rfl ?_
  refine sm_bipush (pc := 70) dX2_init_70 zc_b_6 ?_
  refine sm_newI (pc := 72) dX2_init_72 wd_46 ?_
  refine pf_X2_39 (pc := 74) rfl rfl dX2_init_74 ?_
  refine sm_aload_n (pc := 77) (n := 0) dX2_init_77 rfl ?_
  refine sm_aload_n (pc := 78) (n := 1) dX2_init_78 rfl ?_
  refine pf_X2_42 (pc := 79) rfl rfl dX2_init_79 ?_
  refine sm_aload_n (pc := 82) (n := 0) dX2_init_82 rfl ?_
  refine sm_aload_n (pc := 83) (n := 2) dX2_init_83 rfl ?_
  refine pf_X2_46 (pc := 84) rfl rfl dX2_init_84 ?_
  refine sm_aload_n (pc := 87) (n := 0) dX2_init_87 rfl ?_
  refine sm_aload_n (pc := 88) (n := 3) dX2_init_88 rfl ?_
  refine pf_X2_49 (pc := 89) rfl dX2_init_89 ?_
  refine sm_aload_n (pc := 92) (n := 0) dX2_init_92 rfl ?_
  exact scX2_init_93 P
noncomputable def b_X2_init {d : Nat} (P : zP d) : zK d := (xald 0 (xobj (xald 0 (xnew 17 4 (xdup (xcV 17 1 1 15 f_X1_init (xpfR 18 0 (xald 0 (xpI 5 (xpI 11 (xmnaD 4 2 (xpfR 18 1 (xald 0 (xpI 5 (xpI 11 (xmnaD 4 2 (xpfR 18 2 (xald 0 (xpI 5 (xpI 11 (xmnaD 4 2 (xpfR 18 3 (xald 0 (xpI 5 (cX2_init_50 P)))))))))))))))))))))))))
set_option maxRecDepth 100000 in
set_option maxHeartbeats 4000000 in
theorem s_X2_init {d : Nat} [zGh] (P : zP d) : zSim X_X2_init 2 P 0 (b_X2_init P) := by
  unfold b_X2_init
  refine sm_aload_n (pc := 0) (n := 0) dX2_init_0 rfl ?_
  refine sm_objinit (pc := 1) wd_545 wd_21 wd_22 (by decide) dX2_init_1 ?_
  refine sm_aload_n (pc := 4) (n := 0) dX2_init_4 rfl ?_
  refine sm_new (pc := 5) (ci := 1) (C := RX1) (T := TX1) (N := 4) (ty0 := tyX1) rfl rfl (by decide) (by decide) inz1 tyX1_ok rfl wd_546 wd_547 wd_13 dX2_init_5 ?_
  refine sm_dup (pc := 8) dX2_init_8 ?_
  refine sm_cV (pc := 9) (ci := 1) (n := 1) (mc := 1) (ms := 15) rfl m_X1_init (cr_X2_11 (X := X_X2_init) (fr := 2) (frc := 1) (pc := 9) (mc := 1) (ms := 15) rfl (by decide) dX2_init_9) ?_
  refine pf_X2_12 (pc := 12) rfl rfl dX2_init_12 ?_
  refine sm_aload_n (pc := 15) (n := 0) dX2_init_15 rfl ?_
  refine sm_iconst (pc := 16) dX2_init_16 zc_i_5 ?_
  refine sm_bipush (pc := 17) dX2_init_17 zc_b_11 ?_
  refine sm_mnaDJ (pc := 19) wd_569 wd_45 dX2_init_19 ?_
  refine pf_X2_20 (pc := 23) rfl rfl dX2_init_23 ?_
  refine sm_aload_n (pc := 26) (n := 0) dX2_init_26 rfl ?_
  refine sm_iconst (pc := 27) dX2_init_27 zc_i_5 ?_
  refine sm_bipush (pc := 28) dX2_init_28 zc_b_11 ?_
  refine sm_mnaDJ (pc := 30) wd_569 wd_45 dX2_init_30 ?_
  refine pf_X2_23 (pc := 34) rfl rfl dX2_init_34 ?_
  refine sm_aload_n (pc := 37) (n := 0) dX2_init_37 rfl ?_
  refine sm_iconst (pc := 38) dX2_init_38 zc_i_5 ?_
  refine sm_bipush (pc := 39) dX2_init_39 zc_b_11 ?_
  refine sm_mnaDJ (pc := 41) wd_569 wd_45 dX2_init_41 ?_
  refine pf_X2_26 (pc := 45) rfl rfl dX2_init_45 ?_
  refine sm_aload_n (pc := 48) (n := 0) dX2_init_48 rfl ?_
  refine sm_iconst (pc := 49) dX2_init_49 zc_i_5 ?_
  exact scX2_init_50 P
noncomputable def f_X2_init {d : Nat} : List zV → zH d → zP d → Bool := zfn 5 b_X2_init
theorem m_X2_init {d : Nat} : zMet (d := d) X_X2_init yX2_init 2 f_X2_init := zmet_mk (X := X_X2_init) (by decide) rfl rfl s_X2_init

abbrev X_X2_turnTo : zM := (RX2, cX2_turnTo, 3, none, "turnTo")
noncomputable def b_X2_turnTo {d : Nat} (P : zP d) : zK d := (xald 0 (xald 1 (xpfR 18 12 (xald 0 (xald 2 (xpfR 18 13 (xvret P)))))))
set_option maxRecDepth 100000 in
set_option maxHeartbeats 4000000 in
theorem s_X2_turnTo {d : Nat} [zGh] (P : zP d) : zSim X_X2_turnTo 1 P 0 (b_X2_turnTo P) := by
  unfold b_X2_turnTo
  refine sm_aload_n (pc := 0) (n := 0) dX2_turnTo_0 rfl ?_
  refine sm_aload_n (pc := 1) (n := 1) dX2_turnTo_1 rfl ?_
  refine pf_X2_49 (pc := 2) rfl dX2_turnTo_2 ?_
  refine sm_aload_n (pc := 5) (n := 0) dX2_turnTo_5 rfl ?_
  refine sm_aload_n (pc := 6) (n := 2) dX2_turnTo_6 rfl ?_
  refine pf_X2_53 (pc := 7) rfl dX2_turnTo_7 ?_
  exact sm_vreturn (pc := 10) dX2_turnTo_10 rfl
noncomputable def f_X2_turnTo {d : Nat} : List zV → zH d → zP d → Bool := zfn 3 b_X2_turnTo
theorem m_X2_turnTo {d : Nat} : zMet (d := d) X_X2_turnTo yX2_turnTo 1 f_X2_turnTo := zmet_mk (X := X_X2_turnTo) (by decide) rfl rfl s_X2_turnTo

abbrev X_X2_next : zM := (RX2, cX2_next, 1, (some .int), "next")
noncomputable def bX2_next_91 {d : Nat} (P : zP d) : zK d := (xiret P)
set_option maxRecDepth 100000 in
set_option maxHeartbeats 4000000 in
theorem sbX2_next_91 {d : Nat} [zGh] (P : zP d) : zSim X_X2_next 1 P 91 (bX2_next_91 P) := by
  unfold bX2_next_91
  exact sm_ireturn (pc := 91) dX2_next_91 rfl
noncomputable def bX2_next_61 {d : Nat} (P : zP d) : zK d := (xald 0 (xgfI 18 14 (xald 0 (xgfR 18 10 (xgfI 22 1 (xjoin (bX2_next_91 P) (fun j91 => (xcmp tge (xpI 4294967295 j91) (xald 0 (xgfR 18 10 (xgfR 22 0 (xald 0 (xgfI 18 14 (xald1 0 j91))))))))))))))
set_option maxRecDepth 100000 in
set_option maxHeartbeats 4000000 in
theorem sbX2_next_61 {d : Nat} [zGh] (P : zP d) : zSim X_X2_next 1 P 61 (bX2_next_61 P) := by
  unfold bX2_next_61
  refine sm_aload_n (pc := 61) (n := 0) dX2_next_61 rfl ?_
  refine gf_X2_60 (pc := 62) rfl dX2_next_62 ?_
  refine sm_aload_n (pc := 65) (n := 0) dX2_next_65 rfl ?_
  refine gf_X2_42 (pc := 66) rfl dX2_next_66 ?_
  refine gf_X2_81 (pc := 69) rfl dX2_next_69 ?_
  refine sm_join (pc := 72) (pc' := 91) (sbX2_next_91 P) (fun j91 hj91 => ?_)
  refine sm_icmp_ge (pc := 72) (tgt := 90) dX2_next_72 (by decide) ?_ ?_
  · skip
    refine sm_iconst (pc := 90) dX2_next_90 zc_i_m1 ?_
    exact hj91
  · skip
    refine sm_aload_n (pc := 75) (n := 0) dX2_next_75 rfl ?_
    refine gf_X2_42 (pc := 76) rfl dX2_next_76 ?_
    refine gf_X2_86 (pc := 79) rfl dX2_next_79 ?_
    refine sm_aload_n (pc := 82) (n := 0) dX2_next_82 rfl ?_
    refine gf_X2_60 (pc := 83) rfl dX2_next_83 ?_
    refine sm_iaload (pc := 86) dX2_next_86 ?_
    refine sm_goto (pc := 87) (tgt := 91) dX2_next_87 (by decide) ?_
    exact hj91
noncomputable def bX2_next_48 {d : Nat} (P : zP d) (r0 : zK d) : zK d := (xald 0 (xdup (xgfI 18 14 (xpI 1 (xbin zadd (xpfI 18 14 r0))))))
set_option maxRecDepth 100000 in
set_option maxHeartbeats 4000000 in
theorem sbX2_next_48 {d : Nat} [zGh] (P : zP d) (r0 : zK d) (hr0 : zSim X_X2_next 1 P 0 r0) : zSim X_X2_next 1 P 48 (bX2_next_48 P r0) := by
  unfold bX2_next_48
  refine sm_aload_n (pc := 48) (n := 0) dX2_next_48 rfl ?_
  refine sm_dup (pc := 49) dX2_next_49 ?_
  refine gf_X2_60 (pc := 50) rfl dX2_next_50 ?_
  refine sm_iconst (pc := 53) dX2_next_53 zc_i_1 ?_
  refine sm_iadd (pc := 54) dX2_next_54 ?_
  refine pf_X2_60 (pc := 55) rfl dX2_next_55 ?_
  refine sm_goto (pc := 58) (tgt := 0) dX2_next_58 (by decide) ?_
  exact hr0
noncomputable def lX2_next_0 {d : Nat} (P : zP d) (r0 : zK d) : zK d := (xald 0 (xgfI 18 14 (xald 0 (xgfR 18 10 (xgfI 22 1 (xjoin (bX2_next_61 P) (fun j61 => (xcmp tge j61 (xald 0 (xgfR 18 10 (xgfR 22 0 (xald 0 (xgfI 18 14 (xald1 0 (xpI 32 (xjoin (bX2_next_48 P r0) (fun j48 => (xcmp Nat.beq j48 (xald 0 (xgfR 18 10 (xgfR 22 0 (xald 0 (xgfI 18 14 (xald1 0 (xpI 10 (xcmp Nat.beq j48 j61))))))))))))))))))))))))))
set_option maxRecDepth 100000 in
set_option maxHeartbeats 4000000 in
theorem slX2_next_0 {d : Nat} [zGh] (P : zP d) (r0 : zK d) (hr0 : zSim X_X2_next 1 P 0 r0) : zSim X_X2_next 1 P 0 (lX2_next_0 P r0) := by
  unfold lX2_next_0
  refine sm_aload_n (pc := 0) (n := 0) dX2_next_0 rfl ?_
  refine gf_X2_60 (pc := 1) rfl dX2_next_1 ?_
  refine sm_aload_n (pc := 4) (n := 0) dX2_next_4 rfl ?_
  refine gf_X2_42 (pc := 5) rfl dX2_next_5 ?_
  refine gf_X2_81 (pc := 8) rfl dX2_next_8 ?_
  refine sm_join (pc := 11) (pc' := 61) (sbX2_next_61 P) (fun j61 hj61 => ?_)
  refine sm_icmp_ge (pc := 11) (tgt := 61) dX2_next_11 (by decide) ?_ ?_
  · skip
    exact hj61
  · skip
    refine sm_aload_n (pc := 14) (n := 0) dX2_next_14 rfl ?_
    refine gf_X2_42 (pc := 15) rfl dX2_next_15 ?_
    refine gf_X2_86 (pc := 18) rfl dX2_next_18 ?_
    refine sm_aload_n (pc := 21) (n := 0) dX2_next_21 rfl ?_
    refine gf_X2_60 (pc := 22) rfl dX2_next_22 ?_
    refine sm_iaload (pc := 25) dX2_next_25 ?_
    refine sm_bipush (pc := 26) dX2_next_26 zc_b_32 ?_
    refine sm_join (pc := 28) (pc' := 48) (sbX2_next_48 P r0 hr0) (fun j48 hj48 => ?_)
    refine sm_icmp_eq (pc := 28) (tgt := 48) dX2_next_28 (by decide) ?_ ?_
    · skip
      exact hj48
    · skip
      refine sm_aload_n (pc := 31) (n := 0) dX2_next_31 rfl ?_
      refine gf_X2_42 (pc := 32) rfl dX2_next_32 ?_
      refine gf_X2_86 (pc := 35) rfl dX2_next_35 ?_
      refine sm_aload_n (pc := 38) (n := 0) dX2_next_38 rfl ?_
      refine gf_X2_60 (pc := 39) rfl dX2_next_39 ?_
      refine sm_iaload (pc := 42) dX2_next_42 ?_
      refine sm_bipush (pc := 43) dX2_next_43 zc_b_10 ?_
      refine sm_icmp_ne (pc := 45) (tgt := 61) dX2_next_45 (by decide) ?_ ?_
      · skip
        exact hj61
      · skip
        exact hj48
noncomputable def b_X2_next {d : Nat} (P : zP d) : zK d := (xloop (fun r0 => (lX2_next_0 P r0)) 100000)
set_option maxRecDepth 100000 in
set_option maxHeartbeats 4000000 in
theorem s_X2_next {d : Nat} [zGh] (P : zP d) : zSim X_X2_next 1 P 0 (b_X2_next P) := by
  unfold b_X2_next
  exact sm_loop (fun r0 hr0 => slX2_next_0 P r0 hr0) _
noncomputable def f_X2_next {d : Nat} : List zV → zH d → zP d → Bool := zfn 1 b_X2_next
theorem m_X2_next {d : Nat} : zMet (d := d) X_X2_next yX2_next 1 f_X2_next := zmet_mk (X := X_X2_next) (by decide) rfl rfl s_X2_next

abbrev X_X2_refuse : zM := (RX2, cX2_refuse, 2, (some .boolean), "refuse")
noncomputable def b_X2_refuse {d : Nat} (P : zP d) : zK d := (xald 0 (xgfR 18 0 (xpI 1 (xild 1 (xcV 17 3 0 0 f_X1_tell (xpI 0 (xzret P)))))))
set_option maxRecDepth 100000 in
set_option maxHeartbeats 4000000 in
theorem s_X2_refuse {d : Nat} [zGh] (P : zP d) : zSim X_X2_refuse 2 P 0 (b_X2_refuse P) := by
  unfold b_X2_refuse
  refine sm_aload_n (pc := 0) (n := 0) dX2_refuse_0 rfl ?_
  refine gf_X2_12 (pc := 1) rfl dX2_refuse_1 ?_
  refine sm_iconst (pc := 4) dX2_refuse_4 zc_i_1 ?_
  refine sm_iload_n (pc := 5) (n := 1) dX2_refuse_5 rfl ?_
  refine sm_cV (pc := 6) (ci := 1) (n := 3) (mc := 0) (ms := 0) rfl m_X1_tell (cr_X2_89 (X := X_X2_refuse) (fr := 2) (frc := 1) (pc := 6) (mc := 0) (ms := 0) rfl (by decide) dX2_refuse_6) ?_
  refine sm_iconst (pc := 9) dX2_refuse_9 zc_i_0 ?_
  exact sm_zreturn (pc := 10) dX2_refuse_10 rfl
noncomputable def f_X2_refuse {d : Nat} : List zV → zH d → zP d → Bool := zfn 2 b_X2_refuse
theorem m_X2_refuse {d : Nat} : zMet (d := d) X_X2_refuse yX2_refuse 2 f_X2_refuse := zmet_mk (X := X_X2_refuse) (by decide) rfl rfl s_X2_refuse

abbrev X_X2_fail : zM := (RX2, cX2_fail, 6, (some .boolean), "fail")
noncomputable def bX2_fail_68 {d : Nat} (P : zP d) (r12 : zK d) : zK d := (xald 0 (xgfR 18 0 (xald 0 (xgfR 18 4 (xild 5 (xald1 0 (xcV 17 2 0 0 f_X1_addWithin (xinc 5 4294967295 r12))))))))
set_option maxRecDepth 100000 in
set_option maxHeartbeats 4000000 in
theorem sbX2_fail_68 {d : Nat} [zGh] (P : zP d) (r12 : zK d) (hr12 : zSim X_X2_fail 2 P 12 r12) : zSim X_X2_fail 2 P 68 (bX2_fail_68 P r12) := by
  unfold bX2_fail_68
  refine sm_aload_n (pc := 68) (n := 0) dX2_fail_68 rfl ?_
  refine gf_X2_12 (pc := 69) rfl dX2_fail_69 ?_
  refine sm_aload_n (pc := 72) (n := 0) dX2_fail_72 rfl ?_
  refine gf_X2_29 (pc := 73) rfl dX2_fail_73 ?_
  refine sm_iload (pc := 76) (n := 5) dX2_fail_76 ?_
  refine sm_iaload (pc := 78) dX2_fail_78 ?_
  refine sm_cV (pc := 79) (ci := 1) (n := 2) (mc := 0) (ms := 0) rfl m_X1_addWithin (cr_X2_93 (X := X_X2_fail) (fr := 2) (frc := 1) (pc := 79) (mc := 0) (ms := 0) rfl (by decide) dX2_fail_79) ?_
  refine sm_iinc (pc := 82) (n := 5) dX2_fail_82 zc_i_m1 ?_
  refine sm_goto (pc := 85) (tgt := 12) dX2_fail_85 (by decide) ?_
  exact hr12
noncomputable def bX2_fail_54 {d : Nat} (P : zP d) (j68 : zK d) : zK d := (xald 0 (xgfR 18 0 (xald 0 (xgfR 18 5 (xild 5 (xald1 0 (xcV 17 2 0 0 f_X1_addWithin j68)))))))
set_option maxRecDepth 100000 in
set_option maxHeartbeats 4000000 in
theorem sbX2_fail_54 {d : Nat} [zGh] (P : zP d) (j68 : zK d) (hj68 : zSim X_X2_fail 2 P 68 j68) : zSim X_X2_fail 2 P 54 (bX2_fail_54 P j68) := by
  unfold bX2_fail_54
  refine sm_aload_n (pc := 54) (n := 0) dX2_fail_54 rfl ?_
  refine gf_X2_12 (pc := 55) rfl dX2_fail_55 ?_
  refine sm_aload_n (pc := 58) (n := 0) dX2_fail_58 rfl ?_
  refine gf_X2_33 (pc := 59) rfl dX2_fail_59 ?_
  refine sm_iload (pc := 62) (n := 5) dX2_fail_62 ?_
  refine sm_iaload (pc := 64) dX2_fail_64 ?_
  refine sm_cV (pc := 65) (ci := 1) (n := 2) (mc := 0) (ms := 0) rfl m_X1_addWithin (cr_X2_93 (X := X_X2_fail) (fr := 2) (frc := 1) (pc := 65) (mc := 0) (ms := 0) rfl (by decide) dX2_fail_65) ?_
  exact hj68
noncomputable def bX2_fail_42 {d : Nat} (P : zP d) (r12 : zK d) : zK d := (xild 5 (xild 3 (xjoin (bX2_fail_68 P r12) (fun j68 => (xjoin (bX2_fail_54 P j68) (fun j54 => (xcmp tge (xild 4 (xpI 2 (xcmp Nat.beq j68 j54))) j54)))))))
set_option maxRecDepth 100000 in
set_option maxHeartbeats 4000000 in
theorem sbX2_fail_42 {d : Nat} [zGh] (P : zP d) (r12 : zK d) (hr12 : zSim X_X2_fail 2 P 12 r12) : zSim X_X2_fail 2 P 42 (bX2_fail_42 P r12) := by
  unfold bX2_fail_42
  refine sm_iload (pc := 42) (n := 5) dX2_fail_42 ?_
  refine sm_iload_n (pc := 44) (n := 3) dX2_fail_44 rfl ?_
  refine sm_join (pc := 45) (pc' := 68) (sbX2_fail_68 P r12 hr12) (fun j68 hj68 => ?_)
  refine sm_join (pc := 45) (pc' := 54) (sbX2_fail_54 P j68 hj68) (fun j54 hj54 => ?_)
  refine sm_icmp_lt (pc := 45) (tgt := 54) dX2_fail_45 (by decide) ?_ ?_
  · skip
    exact hj54
  · skip
    refine sm_iload (pc := 48) (n := 4) dX2_fail_48 ?_
    refine sm_iconst (pc := 50) dX2_fail_50 zc_i_2 ?_
    refine sm_icmp_eq (pc := 51) (tgt := 68) dX2_fail_51 (by decide) ?_ ?_
    · skip
      exact hj68
    · skip
      exact hj54
noncomputable def bX2_fail_28 {d : Nat} (P : zP d) (j42 : zK d) : zK d := (xald 0 (xgfR 18 0 (xald 0 (xgfR 18 6 (xild 5 (xald1 0 (xcV 17 2 0 0 f_X1_addWithin j42)))))))
set_option maxRecDepth 100000 in
set_option maxHeartbeats 4000000 in
theorem sbX2_fail_28 {d : Nat} [zGh] (P : zP d) (j42 : zK d) (hj42 : zSim X_X2_fail 2 P 42 j42) : zSim X_X2_fail 2 P 28 (bX2_fail_28 P j42) := by
  unfold bX2_fail_28
  refine sm_aload_n (pc := 28) (n := 0) dX2_fail_28 rfl ?_
  refine gf_X2_12 (pc := 29) rfl dX2_fail_29 ?_
  refine sm_aload_n (pc := 32) (n := 0) dX2_fail_32 rfl ?_
  refine gf_X2_36 (pc := 33) rfl dX2_fail_33 ?_
  refine sm_iload (pc := 36) (n := 5) dX2_fail_36 ?_
  refine sm_iaload (pc := 38) dX2_fail_38 ?_
  refine sm_cV (pc := 39) (ci := 1) (n := 2) (mc := 0) (ms := 0) rfl m_X1_addWithin (cr_X2_93 (X := X_X2_fail) (fr := 2) (frc := 1) (pc := 39) (mc := 0) (ms := 0) rfl (by decide) dX2_fail_39) ?_
  exact hj42
noncomputable def lX2_fail_12 {d : Nat} (P : zP d) (r12 : zK d) : zK d := (xild 5 (xif0 t0ge (xild 5 (xild 3 (xjoin (bX2_fail_42 P r12) (fun j42 => (xjoin (bX2_fail_28 P j42) (fun j28 => (xcmp tge (xild 4 (xif0 t0eq j28 j42)) j28))))))) (xpI 0 (xzret P))))
set_option maxRecDepth 100000 in
set_option maxHeartbeats 4000000 in
theorem slX2_fail_12 {d : Nat} [zGh] (P : zP d) (r12 : zK d) (hr12 : zSim X_X2_fail 2 P 12 r12) : zSim X_X2_fail 2 P 12 (lX2_fail_12 P r12) := by
  unfold lX2_fail_12
  refine sm_iload (pc := 12) (n := 5) dX2_fail_12 ?_
  refine sm_if_lt (pc := 14) (tgt := 88) dX2_fail_14 (by decide) ?_ ?_
  · skip
    refine sm_iconst (pc := 88) dX2_fail_88 zc_i_0 ?_
    exact sm_zreturn (pc := 89) dX2_fail_89 rfl
  · skip
    refine sm_iload (pc := 17) (n := 5) dX2_fail_17 ?_
    refine sm_iload_n (pc := 19) (n := 3) dX2_fail_19 rfl ?_
    refine sm_join (pc := 20) (pc' := 42) (sbX2_fail_42 P r12 hr12) (fun j42 hj42 => ?_)
    refine sm_join (pc := 20) (pc' := 28) (sbX2_fail_28 P j42 hj42) (fun j28 hj28 => ?_)
    refine sm_icmp_lt (pc := 20) (tgt := 28) dX2_fail_20 (by decide) ?_ ?_
    · skip
      exact hj28
    · skip
      refine sm_iload (pc := 23) (n := 4) dX2_fail_23 ?_
      refine sm_if_ne (pc := 25) (tgt := 42) dX2_fail_25 (by decide) ?_ ?_
      · skip
        exact hj42
      · skip
        exact hj28
noncomputable def b_X2_fail {d : Nat} (P : zP d) : zK d := (xald 0 (xgfR 18 0 (xild 1 (xild 2 (xcV 17 3 0 0 f_X1_tell (xild 3 (xist 5 (xloop (fun r12 => (lX2_fail_12 P r12)) 100000))))))))
set_option maxRecDepth 100000 in
set_option maxHeartbeats 4000000 in
theorem s_X2_fail {d : Nat} [zGh] (P : zP d) : zSim X_X2_fail 2 P 0 (b_X2_fail P) := by
  unfold b_X2_fail
  refine sm_aload_n (pc := 0) (n := 0) dX2_fail_0 rfl ?_
  refine gf_X2_12 (pc := 1) rfl dX2_fail_1 ?_
  refine sm_iload_n (pc := 4) (n := 1) dX2_fail_4 rfl ?_
  refine sm_iload_n (pc := 5) (n := 2) dX2_fail_5 rfl ?_
  refine sm_cV (pc := 6) (ci := 1) (n := 3) (mc := 0) (ms := 0) rfl m_X1_tell (cr_X2_89 (X := X_X2_fail) (fr := 2) (frc := 1) (pc := 6) (mc := 0) (ms := 0) rfl (by decide) dX2_fail_6) ?_
  refine sm_iload_n (pc := 9) (n := 3) dX2_fail_9 rfl ?_
  refine sm_istore (pc := 10) (n := 5) dX2_fail_10 ?_
  exact sm_loop (fun r12 hr12 => slX2_fail_12 P r12 hr12) _
noncomputable def f_X2_fail {d : Nat} : List zV → zH d → zP d → Bool := zfn 6 b_X2_fail
theorem m_X2_fail {d : Nat} : zMet (d := d) X_X2_fail yX2_fail 2 f_X2_fail := zmet_mk (X := X_X2_fail) (by decide) rfl rfl s_X2_fail

abbrev X_X2_isDigit : zM := (RX2, cX2_isDigit, 1, (some .boolean), "isDigit")
noncomputable def bX2_isDigit_17 {d : Nat} (P : zP d) : zK d := (xzret P)
set_option maxRecDepth 100000 in
set_option maxHeartbeats 4000000 in
theorem sbX2_isDigit_17 {d : Nat} [zGh] (P : zP d) : zSim X_X2_isDigit 1 P 17 (bX2_isDigit_17 P) := by
  unfold bX2_isDigit_17
  exact sm_zreturn (pc := 17) dX2_isDigit_17 rfl
noncomputable def bX2_isDigit_16 {d : Nat} (P : zP d) (j17 : zK d) : zK d := (xpI 0 j17)
set_option maxRecDepth 100000 in
set_option maxHeartbeats 4000000 in
theorem sbX2_isDigit_16 {d : Nat} [zGh] (P : zP d) (j17 : zK d) (hj17 : zSim X_X2_isDigit 1 P 17 j17) : zSim X_X2_isDigit 1 P 16 (bX2_isDigit_16 P j17) := by
  unfold bX2_isDigit_16
  refine sm_iconst (pc := 16) dX2_isDigit_16 zc_i_0 ?_
  exact hj17
noncomputable def b_X2_isDigit {d : Nat} (P : zP d) : zK d := (xild 0 (xpI 48 (xjoin (bX2_isDigit_17 P) (fun j17 => (xjoin (bX2_isDigit_16 P j17) (fun j16 => (xcmp tge (xild 0 (xpI 57 (xcmp tle (xpI 1 j17) j16))) j16)))))))
set_option maxRecDepth 100000 in
set_option maxHeartbeats 4000000 in
theorem s_X2_isDigit {d : Nat} [zGh] (P : zP d) : zSim X_X2_isDigit 1 P 0 (b_X2_isDigit P) := by
  unfold b_X2_isDigit
  refine sm_iload_n (pc := 0) (n := 0) dX2_isDigit_0 rfl ?_
  refine sm_bipush (pc := 1) dX2_isDigit_1 zc_b_48 ?_
  refine sm_join (pc := 3) (pc' := 17) (sbX2_isDigit_17 P) (fun j17 hj17 => ?_)
  refine sm_join (pc := 3) (pc' := 16) (sbX2_isDigit_16 P j17 hj17) (fun j16 hj16 => ?_)
  refine sm_icmp_lt (pc := 3) (tgt := 16) dX2_isDigit_3 (by decide) ?_ ?_
  · skip
    exact hj16
  · skip
    refine sm_iload_n (pc := 6) (n := 0) dX2_isDigit_6 rfl ?_
    refine sm_bipush (pc := 7) dX2_isDigit_7 zc_b_57 ?_
    refine sm_icmp_gt (pc := 9) (tgt := 16) dX2_isDigit_9 (by decide) ?_ ?_
    · skip
      exact hj16
    · skip
      refine sm_iconst (pc := 12) dX2_isDigit_12 zc_i_1 ?_
      refine sm_goto (pc := 13) (tgt := 17) dX2_isDigit_13 (by decide) ?_
      exact hj17
noncomputable def f_X2_isDigit {d : Nat} : List zV → zH d → zP d → Bool := zfn 1 b_X2_isDigit
theorem m_X2_isDigit {d : Nat} : zMet (d := d) X_X2_isDigit yX2_isDigit 1 f_X2_isDigit := zmet_mk (X := X_X2_isDigit) (by decide) rfl rfl s_X2_isDigit

abbrev X_X2_readNumber : zM := (RX2, cX2_readNumber, 4, (some .int), "readNumber")
noncomputable def bX2_readNumber_105 {d : Nat} (P : zP d) : zK d := (xald 0 (xgfR 18 0 (xpI 1 (xild 2 (xcV 17 3 0 0 f_X1_tell (xpI 4294967295 (xiret P)))))))
set_option maxRecDepth 100000 in
set_option maxHeartbeats 4000000 in
theorem sbX2_readNumber_105 {d : Nat} [zGh] (P : zP d) : zSim X_X2_readNumber 2 P 105 (bX2_readNumber_105 P) := by
  unfold bX2_readNumber_105
  refine sm_aload_n (pc := 105) (n := 0) dX2_readNumber_105 rfl ?_
  refine gf_X2_12 (pc := 106) rfl dX2_readNumber_106 ?_
  refine sm_iconst (pc := 109) dX2_readNumber_109 zc_i_1 ?_
  refine sm_iload_n (pc := 110) (n := 2) dX2_readNumber_110 rfl ?_
  refine sm_cV (pc := 111) (ci := 1) (n := 3) (mc := 0) (ms := 0) rfl m_X1_tell (cr_X2_89 (X := X_X2_readNumber) (fr := 2) (frc := 1) (pc := 111) (mc := 0) (ms := 0) rfl (by decide) dX2_readNumber_111) ?_
  refine sm_iconst (pc := 114) dX2_readNumber_114 zc_i_m1 ?_
  exact sm_ireturn (pc := 115) dX2_readNumber_115 rfl
noncomputable def bX2_readNumber_87 {d : Nat} (P : zP d) : zK d := (xald 0 (xgfI 18 14 (xild 2 (xjoin (bX2_readNumber_105 P) (fun j105 => (xcmp Nat.beq j105 (xald 0 (xgfI 18 14 (xild 2 (xbin zsub (xpI 4 (xcmp tle (xild 3 (xiret P)) j105))))))))))))
set_option maxRecDepth 100000 in
set_option maxHeartbeats 4000000 in
theorem sbX2_readNumber_87 {d : Nat} [zGh] (P : zP d) : zSim X_X2_readNumber 2 P 87 (bX2_readNumber_87 P) := by
  unfold bX2_readNumber_87
  refine sm_aload_n (pc := 87) (n := 0) dX2_readNumber_87 rfl ?_
  refine gf_X2_60 (pc := 88) rfl dX2_readNumber_88 ?_
  refine sm_iload_n (pc := 91) (n := 2) dX2_readNumber_91 rfl ?_
  refine sm_join (pc := 92) (pc' := 105) (sbX2_readNumber_105 P) (fun j105 hj105 => ?_)
  refine sm_icmp_eq (pc := 92) (tgt := 105) dX2_readNumber_92 (by decide) ?_ ?_
  · skip
    exact hj105
  · skip
    refine sm_aload_n (pc := 95) (n := 0) dX2_readNumber_95 rfl ?_
    refine gf_X2_60 (pc := 96) rfl dX2_readNumber_96 ?_
    refine sm_iload_n (pc := 99) (n := 2) dX2_readNumber_99 rfl ?_
    refine sm_isub (pc := 100) dX2_readNumber_100 ?_
    refine sm_iconst (pc := 101) dX2_readNumber_101 zc_i_4 ?_
    refine sm_icmp_le (pc := 102) (tgt := 116) dX2_readNumber_102 (by decide) ?_ ?_
    · skip
      refine sm_iload_n (pc := 116) (n := 3) dX2_readNumber_116 rfl ?_
      exact sm_ireturn (pc := 117) dX2_readNumber_117 rfl
    · skip
      exact hj105
noncomputable def bX2_readNumber_83 {d : Nat} (P : zP d) (r12 : zK d) : zK d := (xist 1 r12)
set_option maxRecDepth 100000 in
set_option maxHeartbeats 4000000 in
theorem sbX2_readNumber_83 {d : Nat} [zGh] (P : zP d) (r12 : zK d) (hr12 : zSim X_X2_readNumber 2 P 12 r12) : zSim X_X2_readNumber 2 P 83 (bX2_readNumber_83 P r12) := by
  unfold bX2_readNumber_83
  refine sm_istore_n (pc := 83) (n := 1) dX2_readNumber_83 rfl ?_
  refine sm_goto (pc := 84) (tgt := 12) dX2_readNumber_84 (by decide) ?_
  exact hr12
noncomputable def cX2_readNumber_54 {d : Nat} (P : zP d) (r12 : zK d) : zK d := (xgfI 18 14 (xald 0 (xgfR 18 10 (xgfI 22 1 (xjoin (bX2_readNumber_83 P r12) (fun j83 => (xcmp tge (xpI 4294967295 j83) (xald 0 (xgfR 18 10 (xgfR 22 0 (xald 0 (xgfI 18 14 (xald1 0 j83)))))))))))))
set_option maxRecDepth 100000 in
set_option maxHeartbeats 4000000 in
theorem scX2_readNumber_54 {d : Nat} [zGh] (P : zP d) (r12 : zK d) (hr12 : zSim X_X2_readNumber 2 P 12 r12) : zSim X_X2_readNumber 2 P 54 (cX2_readNumber_54 P r12) := by
  unfold cX2_readNumber_54
  refine gf_X2_60 (pc := 54) rfl dX2_readNumber_54 ?_
  refine sm_aload_n (pc := 57) (n := 0) dX2_readNumber_57 rfl ?_
  refine gf_X2_42 (pc := 58) rfl dX2_readNumber_58 ?_
  refine gf_X2_81 (pc := 61) rfl dX2_readNumber_61 ?_
  refine sm_join (pc := 64) (pc' := 83) (sbX2_readNumber_83 P r12 hr12) (fun j83 hj83 => ?_)
  refine sm_icmp_ge (pc := 64) (tgt := 82) dX2_readNumber_64 (by decide) ?_ ?_
  · skip
    refine sm_iconst (pc := 82) dX2_readNumber_82 zc_i_m1 ?_
    exact hj83
  · skip
    refine sm_aload_n (pc := 67) (n := 0) dX2_readNumber_67 rfl ?_
    refine gf_X2_42 (pc := 68) rfl dX2_readNumber_68 ?_
    refine gf_X2_86 (pc := 71) rfl dX2_readNumber_71 ?_
    refine sm_aload_n (pc := 74) (n := 0) dX2_readNumber_74 rfl ?_
    refine gf_X2_60 (pc := 75) rfl dX2_readNumber_75 ?_
    refine sm_iaload (pc := 78) dX2_readNumber_78 ?_
    refine sm_goto (pc := 79) (tgt := 83) dX2_readNumber_79 (by decide) ?_
    exact hj83
noncomputable def lX2_readNumber_12 {d : Nat} (P : zP d) (r12 : zK d) : zK d := (xald 0 (xgfI 18 14 (xald 0 (xgfR 18 10 (xgfI 22 1 (xjoin (bX2_readNumber_87 P) (fun j87 => (xcmp tge j87 (xild 1 (xcS 1 0 0 f_X2_isDigit (xif0 t0eq j87 (xild 3 (xpI 10 (xbin zmul (xild 1 (xbin zadd (xpI 48 (xbin zsub (xist 3 (xald 0 (xdup (xgfI 18 14 (xpI 1 (xbin zadd (xpfI 18 14 (xald 0 (cX2_readNumber_54 P r12)))))))))))))))))))))))))))
set_option maxRecDepth 100000 in
set_option maxHeartbeats 4000000 in
theorem slX2_readNumber_12 {d : Nat} [zGh] (P : zP d) (r12 : zK d) (hr12 : zSim X_X2_readNumber 2 P 12 r12) : zSim X_X2_readNumber 2 P 12 (lX2_readNumber_12 P r12) := by
  unfold lX2_readNumber_12
  refine sm_aload_n (pc := 12) (n := 0) dX2_readNumber_12 rfl ?_
  refine gf_X2_60 (pc := 13) rfl dX2_readNumber_13 ?_
  refine sm_aload_n (pc := 16) (n := 0) dX2_readNumber_16 rfl ?_
  refine gf_X2_42 (pc := 17) rfl dX2_readNumber_17 ?_
  refine gf_X2_81 (pc := 20) rfl dX2_readNumber_20 ?_
  refine sm_join (pc := 23) (pc' := 87) (sbX2_readNumber_87 P) (fun j87 hj87 => ?_)
  refine sm_icmp_ge (pc := 23) (tgt := 87) dX2_readNumber_23 (by decide) ?_ ?_
  · skip
    exact hj87
  · skip
    refine sm_iload_n (pc := 26) (n := 1) dX2_readNumber_26 rfl ?_
    refine sm_cS (pc := 27) (n := 1) (mc := 0) (ms := 0) m_X2_isDigit (cr_X2_126 (X := X_X2_readNumber) (fr := 2) (frc := 1) (pc := 27) (mc := 0) (ms := 0) rfl (by decide) dX2_readNumber_27) ?_
    refine sm_if_eq (pc := 30) (tgt := 87) dX2_readNumber_30 (by decide) ?_ ?_
    · skip
      exact hj87
    · skip
      refine sm_iload_n (pc := 33) (n := 3) dX2_readNumber_33 rfl ?_
      refine sm_bipush (pc := 34) dX2_readNumber_34 zc_b_10 ?_
      refine sm_imul (pc := 36) dX2_readNumber_36 ?_
      refine sm_iload_n (pc := 37) (n := 1) dX2_readNumber_37 rfl ?_
      refine sm_iadd (pc := 38) dX2_readNumber_38 ?_
      refine sm_bipush (pc := 39) dX2_readNumber_39 zc_b_48 ?_
      refine sm_isub (pc := 41) dX2_readNumber_41 ?_
      refine sm_istore_n (pc := 42) (n := 3) dX2_readNumber_42 rfl ?_
      refine sm_aload_n (pc := 43) (n := 0) dX2_readNumber_43 rfl ?_
      refine sm_dup (pc := 44) dX2_readNumber_44 ?_
      refine gf_X2_60 (pc := 45) rfl dX2_readNumber_45 ?_
      refine sm_iconst (pc := 48) dX2_readNumber_48 zc_i_1 ?_
      refine sm_iadd (pc := 49) dX2_readNumber_49 ?_
      refine pf_X2_60 (pc := 50) rfl dX2_readNumber_50 ?_
      refine sm_aload_n (pc := 53) (n := 0) dX2_readNumber_53 rfl ?_
      exact scX2_readNumber_54 P r12 hr12
noncomputable def b_X2_readNumber {d : Nat} (P : zP d) : zK d := (xald 0 (xcV 18 1 0 0 f_X2_next (xist 1 (xald 0 (xgfI 18 14 (xist 2 (xpI 0 (xist 3 (xloop (fun r12 => (lX2_readNumber_12 P r12)) 100000)))))))))
set_option maxRecDepth 100000 in
set_option maxHeartbeats 4000000 in
theorem s_X2_readNumber {d : Nat} [zGh] (P : zP d) : zSim X_X2_readNumber 2 P 0 (b_X2_readNumber P) := by
  unfold b_X2_readNumber
  refine sm_aload_n (pc := 0) (n := 0) dX2_readNumber_0 rfl ?_
  refine sm_cV (pc := 1) (ci := 2) (n := 1) (mc := 0) (ms := 0) rfl m_X2_next (cr_X2_74 (X := X_X2_readNumber) (fr := 2) (frc := 1) (pc := 1) (mc := 0) (ms := 0) rfl (by decide) dX2_readNumber_1) ?_
  refine sm_istore_n (pc := 4) (n := 1) dX2_readNumber_4 rfl ?_
  refine sm_aload_n (pc := 5) (n := 0) dX2_readNumber_5 rfl ?_
  refine gf_X2_60 (pc := 6) rfl dX2_readNumber_6 ?_
  refine sm_istore_n (pc := 9) (n := 2) dX2_readNumber_9 rfl ?_
  refine sm_iconst (pc := 10) dX2_readNumber_10 zc_i_0 ?_
  refine sm_istore_n (pc := 11) (n := 3) dX2_readNumber_11 rfl ?_
  exact sm_loop (fun r12 hr12 => slX2_readNumber_12 P r12 hr12) _
noncomputable def f_X2_readNumber {d : Nat} : List zV → zH d → zP d → Bool := zfn 4 b_X2_readNumber
theorem m_X2_readNumber {d : Nat} : zMet (d := d) X_X2_readNumber yX2_readNumber 2 f_X2_readNumber := zmet_mk (X := X_X2_readNumber) (by decide) rfl rfl s_X2_readNumber

abbrev X_X2_copy : zM := (RX2, cX2_copy, 4, none, "copy")
noncomputable def lX2_copy_2 {d : Nat} (P : zP d) (r2 : zK d) : zK d := (xild 3 (xald 0 (xgfR 18 12 (xgfI 23 1 (xcmp tge (xvret P) (xald 2 (xild 3 (xald 1 (xild 3 (xald1 0 (xi2l (xlas (xinc 3 1 r2)))))))))))))
set_option maxRecDepth 100000 in
set_option maxHeartbeats 4000000 in
theorem slX2_copy_2 {d : Nat} [zGh] (P : zP d) (r2 : zK d) (hr2 : zSim X_X2_copy 1 P 2 r2) : zSim X_X2_copy 1 P 2 (lX2_copy_2 P r2) := by
  unfold lX2_copy_2
  refine sm_iload_n (pc := 2) (n := 3) dX2_copy_2 rfl ?_
  refine sm_aload_n (pc := 3) (n := 0) dX2_copy_3 rfl ?_
  refine gf_X2_49 (pc := 4) rfl dX2_copy_4 ?_
  refine gf_X2_100 (pc := 7) rfl dX2_copy_7 ?_
  refine sm_icmp_ge (pc := 10) (tgt := 26) dX2_copy_10 (by decide) ?_ ?_
  · skip
    exact sm_vreturn (pc := 26) dX2_copy_26 rfl
  · skip
    refine sm_aload_n (pc := 13) (n := 2) dX2_copy_13 rfl ?_
    refine sm_iload_n (pc := 14) (n := 3) dX2_copy_14 rfl ?_
    refine sm_aload_n (pc := 15) (n := 1) dX2_copy_15 rfl ?_
    refine sm_iload_n (pc := 16) (n := 3) dX2_copy_16 rfl ?_
    refine sm_iaload (pc := 17) dX2_copy_17 ?_
    refine sm_i2l (pc := 18) dX2_copy_18 ?_
    refine sm_lastore (pc := 19) dX2_copy_19 ?_
    refine sm_iinc (pc := 20) (n := 3) dX2_copy_20 zc_i_1 ?_
    refine sm_goto (pc := 23) (tgt := 2) dX2_copy_23 (by decide) ?_
    exact hr2
noncomputable def b_X2_copy {d : Nat} (P : zP d) : zK d := (xpI 0 (xist 3 (xloop (fun r2 => (lX2_copy_2 P r2)) 100000)))
set_option maxRecDepth 100000 in
set_option maxHeartbeats 4000000 in
theorem s_X2_copy {d : Nat} [zGh] (P : zP d) : zSim X_X2_copy 1 P 0 (b_X2_copy P) := by
  unfold b_X2_copy
  refine sm_iconst (pc := 0) dX2_copy_0 zc_i_0 ?_
  refine sm_istore_n (pc := 1) (n := 3) dX2_copy_1 rfl ?_
  exact sm_loop (fun r2 hr2 => slX2_copy_2 P r2 hr2) _
noncomputable def f_X2_copy {d : Nat} : List zV → zH d → zP d → Bool := zfn 4 b_X2_copy
theorem m_X2_copy {d : Nat} : zMet (d := d) X_X2_copy yX2_copy 1 f_X2_copy := zmet_mk (X := X_X2_copy) (by decide) rfl rfl s_X2_copy

abbrev X_X2_add : zM := (RX2, cX2_add, 7, (some .boolean), "add")
noncomputable def bX2_add_60 {d : Nat} (P : zP d) : zK d := (xpI 0 (xzret P))
set_option maxRecDepth 100000 in
set_option maxHeartbeats 4000000 in
theorem sbX2_add_60 {d : Nat} [zGh] (P : zP d) : zSim X_X2_add 1 P 60 (bX2_add_60 P) := by
  unfold bX2_add_60
  refine sm_iconst (pc := 60) dX2_add_60 zc_i_0 ?_
  exact sm_zreturn (pc := 61) dX2_add_61 rfl
noncomputable def bX2_add_40 {d : Nat} (P : zP d) (r3 : zK d) : zK d := (xlst 5 (xlld 5 (xpL 1000000000000 (xlcmp (xjoin (bX2_add_60 P) (fun j60 => (xif0 t0le (xlld 5 (xpL 18446743073709551616 (xlcmp (xif0 t0ge (xald 3 (xild 4 (xlld 5 (xlas (xinc 4 1 r3))))) j60)))) j60)))))))
set_option maxRecDepth 100000 in
set_option maxHeartbeats 4000000 in
theorem sbX2_add_40 {d : Nat} [zGh] (P : zP d) (r3 : zK d) (hr3 : zSim X_X2_add 1 P 3 r3) : zSim X_X2_add 1 P 40 (bX2_add_40 P r3) := by
  unfold bX2_add_40
  refine sm_lstore (pc := 40) (n := 5) dX2_add_40 ?_
  refine sm_lload (pc := 42) (n := 5) dX2_add_42 ?_
  refine sm_ldc2 (pc := 44) dX2_add_44 wd_765 zc_cl_1000000000000 ?_
  refine sm_lcmp (pc := 47) dX2_add_47 ?_
  refine sm_join (pc := 48) (pc' := 60) (sbX2_add_60 P) (fun j60 hj60 => ?_)
  refine sm_if_gt (pc := 48) (tgt := 60) dX2_add_48 (by decide) ?_ ?_
  · skip
    exact hj60
  · skip
    refine sm_lload (pc := 51) (n := 5) dX2_add_51 ?_
    refine sm_ldc2 (pc := 53) dX2_add_53 wd_770 zc_cl_m1000000000000 ?_
    refine sm_lcmp (pc := 56) dX2_add_56 ?_
    refine sm_if_ge (pc := 57) (tgt := 62) dX2_add_57 (by decide) ?_ ?_
    · skip
      refine sm_aload_n (pc := 62) (n := 3) dX2_add_62 rfl ?_
      refine sm_iload (pc := 63) (n := 4) dX2_add_63 ?_
      refine sm_lload (pc := 65) (n := 5) dX2_add_65 ?_
      refine sm_lastore (pc := 67) dX2_add_67 ?_
      refine sm_iinc (pc := 68) (n := 4) dX2_add_68 zc_i_1 ?_
      refine sm_goto (pc := 71) (tgt := 3) dX2_add_71 (by decide) ?_
      exact hr3
    · skip
      exact hj60
noncomputable def lX2_add_3 {d : Nat} (P : zP d) (r3 : zK d) : zK d := (xild 4 (xald 0 (xgfR 18 12 (xgfI 23 1 (xcmp tge (xpI 1 (xzret P)) (xild 2 (xjoin (bX2_add_40 P r3) (fun j40 => (xif0 t0eq (xald 3 (xild 4 (xlal (xald 1 (xild 4 (xlal (xbinj zaddj j40))))))) (xald 3 (xild 4 (xlal (xald 1 (xild 4 (xlal (xbinj zsubj j40))))))))))))))))
set_option maxRecDepth 100000 in
set_option maxHeartbeats 4000000 in
theorem slX2_add_3 {d : Nat} [zGh] (P : zP d) (r3 : zK d) (hr3 : zSim X_X2_add 1 P 3 r3) : zSim X_X2_add 1 P 3 (lX2_add_3 P r3) := by
  unfold lX2_add_3
  refine sm_iload (pc := 3) (n := 4) dX2_add_3 ?_
  refine sm_aload_n (pc := 5) (n := 0) dX2_add_5 rfl ?_
  refine gf_X2_49 (pc := 6) rfl dX2_add_6 ?_
  refine gf_X2_100 (pc := 9) rfl dX2_add_9 ?_
  refine sm_icmp_ge (pc := 12) (tgt := 74) dX2_add_12 (by decide) ?_ ?_
  · skip
    refine sm_iconst (pc := 74) dX2_add_74 zc_i_1 ?_
    exact sm_zreturn (pc := 75) dX2_add_75 rfl
  · skip
    refine sm_iload_n (pc := 15) (n := 2) dX2_add_15 rfl ?_
    refine sm_join (pc := 16) (pc' := 40) (sbX2_add_40 P r3 hr3) (fun j40 hj40 => ?_)
    refine sm_if_eq (pc := 16) (tgt := 31) dX2_add_16 (by decide) ?_ ?_
    · skip
      refine sm_aload_n (pc := 31) (n := 3) dX2_add_31 rfl ?_
      refine sm_iload (pc := 32) (n := 4) dX2_add_32 ?_
      refine sm_laload (pc := 34) dX2_add_34 ?_
      refine sm_aload_n (pc := 35) (n := 1) dX2_add_35 rfl ?_
      refine sm_iload (pc := 36) (n := 4) dX2_add_36 ?_
      refine sm_laload (pc := 38) dX2_add_38 ?_
      refine sm_ladd (pc := 39) dX2_add_39 ?_
      exact hj40
    · skip
      refine sm_aload_n (pc := 19) (n := 3) dX2_add_19 rfl ?_
      refine sm_iload (pc := 20) (n := 4) dX2_add_20 ?_
      refine sm_laload (pc := 22) dX2_add_22 ?_
      refine sm_aload_n (pc := 23) (n := 1) dX2_add_23 rfl ?_
      refine sm_iload (pc := 24) (n := 4) dX2_add_24 ?_
      refine sm_laload (pc := 26) dX2_add_26 ?_
      refine sm_lsub (pc := 27) dX2_add_27 ?_
      refine sm_goto (pc := 28) (tgt := 40) dX2_add_28 (by decide) ?_
      exact hj40
noncomputable def b_X2_add {d : Nat} (P : zP d) : zK d := (xpI 0 (xist 4 (xloop (fun r3 => (lX2_add_3 P r3)) 100000)))
set_option maxRecDepth 100000 in
set_option maxHeartbeats 4000000 in
theorem s_X2_add {d : Nat} [zGh] (P : zP d) : zSim X_X2_add 1 P 0 (b_X2_add P) := by
  unfold b_X2_add
  refine sm_iconst (pc := 0) dX2_add_0 zc_i_0 ?_
  refine sm_istore (pc := 1) (n := 4) dX2_add_1 ?_
  exact sm_loop (fun r3 hr3 => slX2_add_3 P r3 hr3) _
noncomputable def f_X2_add {d : Nat} : List zV → zH d → zP d → Bool := zfn 7 b_X2_add
theorem m_X2_add {d : Nat} : zMet (d := d) X_X2_add yX2_add 1 f_X2_add := zmet_mk (X := X_X2_add) (by decide) rfl rfl s_X2_add

abbrev X_X2_multiply : zM := (RX2, cX2_multiply, 4, (some .boolean), "multiply")
noncomputable def bX2_multiply_43 {d : Nat} (P : zP d) (r2 : zK d) : zK d := (xald 2 (xild 3 (xdup2 (xlal (xald 1 (xild 3 (xlal (xbinj zmulj (xlas (xinc 3 1 r2))))))))))
set_option maxRecDepth 100000 in
set_option maxHeartbeats 4000000 in
theorem sbX2_multiply_43 {d : Nat} [zGh] (P : zP d) (r2 : zK d) (hr2 : zSim X_X2_multiply 1 P 2 r2) : zSim X_X2_multiply 1 P 43 (bX2_multiply_43 P r2) := by
  unfold bX2_multiply_43
  refine sm_aload_n (pc := 43) (n := 2) dX2_multiply_43 rfl ?_
  refine sm_iload_n (pc := 44) (n := 3) dX2_multiply_44 rfl ?_
  refine sm_dup2 (pc := 45) dX2_multiply_45 ?_
  refine sm_laload (pc := 46) dX2_multiply_46 ?_
  refine sm_aload_n (pc := 47) (n := 1) dX2_multiply_47 rfl ?_
  refine sm_iload_n (pc := 48) (n := 3) dX2_multiply_48 rfl ?_
  refine sm_laload (pc := 49) dX2_multiply_49 ?_
  refine sm_lmul (pc := 50) dX2_multiply_50 ?_
  refine sm_lastore (pc := 51) dX2_multiply_51 ?_
  refine sm_iinc (pc := 52) (n := 3) dX2_multiply_52 zc_i_1 ?_
  refine sm_goto (pc := 55) (tgt := 2) dX2_multiply_55 (by decide) ?_
  exact hr2
noncomputable def cX2_multiply_42 {d : Nat} (P : zP d) : zK d := (xzret P)
set_option maxRecDepth 100000 in
set_option maxHeartbeats 4000000 in
theorem scX2_multiply_42 {d : Nat} [zGh] (P : zP d) : zSim X_X2_multiply 1 P 42 (cX2_multiply_42 P) := by
  unfold cX2_multiply_42
  exact sm_zreturn (pc := 42) dX2_multiply_42 rfl
noncomputable def lX2_multiply_2 {d : Nat} (P : zP d) (r2 : zK d) : zK d := (xild 3 (xald 0 (xgfR 18 12 (xgfI 23 1 (xcmp tge (xpI 1 (xzret P)) (xald 1 (xild 3 (xlal (xpL 0 (xlcmp (xjoin (bX2_multiply_43 P r2) (fun j43 => (xif0 t0eq j43 (xald 2 (xild 3 (xlal (xabsj (xpL 1000000000000 (xald 1 (xild 3 (xlal (xabsj (xbinjN zdivj (xlcmp (xif0 t0le j43 (xpI 0 (cX2_multiply_42 P)))))))))))))))))))))))))))
set_option maxRecDepth 100000 in
set_option maxHeartbeats 4000000 in
theorem slX2_multiply_2 {d : Nat} [zGh] (P : zP d) (r2 : zK d) (hr2 : zSim X_X2_multiply 1 P 2 r2) : zSim X_X2_multiply 1 P 2 (lX2_multiply_2 P r2) := by
  unfold lX2_multiply_2
  refine sm_iload_n (pc := 2) (n := 3) dX2_multiply_2 rfl ?_
  refine sm_aload_n (pc := 3) (n := 0) dX2_multiply_3 rfl ?_
  refine gf_X2_49 (pc := 4) rfl dX2_multiply_4 ?_
  refine gf_X2_100 (pc := 7) rfl dX2_multiply_7 ?_
  refine sm_icmp_ge (pc := 10) (tgt := 58) dX2_multiply_10 (by decide) ?_ ?_
  · skip
    refine sm_iconst (pc := 58) dX2_multiply_58 zc_i_1 ?_
    exact sm_zreturn (pc := 59) dX2_multiply_59 rfl
  · skip
    refine sm_aload_n (pc := 13) (n := 1) dX2_multiply_13 rfl ?_
    refine sm_iload_n (pc := 14) (n := 3) dX2_multiply_14 rfl ?_
    refine sm_laload (pc := 15) dX2_multiply_15 ?_
    refine sm_lconst (pc := 16) dX2_multiply_16 zc_l_0 ?_
    refine sm_lcmp (pc := 17) dX2_multiply_17 ?_
    refine sm_join (pc := 18) (pc' := 43) (sbX2_multiply_43 P r2 hr2) (fun j43 hj43 => ?_)
    refine sm_if_eq (pc := 18) (tgt := 43) dX2_multiply_18 (by decide) ?_ ?_
    · skip
      exact hj43
    · skip
      refine sm_aload_n (pc := 21) (n := 2) dX2_multiply_21 rfl ?_
      refine sm_iload_n (pc := 22) (n := 3) dX2_multiply_22 rfl ?_
      refine sm_laload (pc := 23) dX2_multiply_23 ?_
      refine sm_mabsj (pc := 24) wd_762 wd_763 wd_6 wd_764 (by decide) dX2_multiply_24 ?_
      refine sm_ldc2 (pc := 27) dX2_multiply_27 wd_765 zc_cl_1000000000000 ?_
      refine sm_aload_n (pc := 30) (n := 1) dX2_multiply_30 rfl ?_
      refine sm_iload_n (pc := 31) (n := 3) dX2_multiply_31 rfl ?_
      refine sm_laload (pc := 32) dX2_multiply_32 ?_
      refine sm_mabsj (pc := 33) wd_762 wd_763 wd_6 wd_764 (by decide) dX2_multiply_33 ?_
      refine sm_ldiv (pc := 36) dX2_multiply_36 ?_
      refine sm_lcmp (pc := 37) dX2_multiply_37 ?_
      refine sm_if_le (pc := 38) (tgt := 43) dX2_multiply_38 (by decide) ?_ ?_
      · skip
        exact hj43
      · skip
        refine sm_iconst (pc := 41) dX2_multiply_41 zc_i_0 ?_
        exact scX2_multiply_42 P
noncomputable def b_X2_multiply {d : Nat} (P : zP d) : zK d := (xpI 0 (xist 3 (xloop (fun r2 => (lX2_multiply_2 P r2)) 100000)))
set_option maxRecDepth 100000 in
set_option maxHeartbeats 4000000 in
theorem s_X2_multiply {d : Nat} [zGh] (P : zP d) : zSim X_X2_multiply 1 P 0 (b_X2_multiply P) := by
  unfold b_X2_multiply
  refine sm_iconst (pc := 0) dX2_multiply_0 zc_i_0 ?_
  refine sm_istore_n (pc := 1) (n := 3) dX2_multiply_1 rfl ?_
  exact sm_loop (fun r2 hr2 => slX2_multiply_2 P r2 hr2) _
noncomputable def f_X2_multiply {d : Nat} : List zV → zH d → zP d → Bool := zfn 4 b_X2_multiply
theorem m_X2_multiply {d : Nat} : zMet (d := d) X_X2_multiply yX2_multiply 1 f_X2_multiply := zmet_mk (X := X_X2_multiply) (by decide) rfl rfl s_X2_multiply

abbrev X_X2_rowFor : zM := (RX2, cX2_rowFor, 3, (some (.array .int)), "rowFor")
noncomputable def bX2_rowFor_66 {d : Nat} (P : zP d) : zK d := (xald 0 (xgfR 18 12 (xgfR 23 12 (xild 2 (xaal (xaret P))))))
set_option maxRecDepth 100000 in
set_option maxHeartbeats 4000000 in
theorem sbX2_rowFor_66 {d : Nat} [zGh] (P : zP d) : zSim X_X2_rowFor 1 P 66 (bX2_rowFor_66 P) := by
  unfold bX2_rowFor_66
  refine sm_aload_n (pc := 66) (n := 0) dX2_rowFor_66 rfl ?_
  refine gf_X2_49 (pc := 67) rfl dX2_rowFor_67 ?_
  refine gf_X2_188 (pc := 70) rfl dX2_rowFor_70 ?_
  refine sm_iload_n (pc := 73) (n := 2) dX2_rowFor_73 rfl ?_
  refine sm_aaload (pc := 74) dX2_rowFor_74 ?_
  exact sm_areturn (pc := 75) dX2_rowFor_75 rfl (by first | exact Or.inl ⟨_, rfl⟩ | exact Or.inr ⟨_, rfl⟩)
noncomputable def bX2_rowFor_36 {d : Nat} (P : zP d) : zK d := (xald 0 (xgfR 18 13 (xgfR 21 6 (xild 2 (xaal (xaret P))))))
set_option maxRecDepth 100000 in
set_option maxHeartbeats 4000000 in
theorem sbX2_rowFor_36 {d : Nat} [zGh] (P : zP d) : zSim X_X2_rowFor 1 P 36 (bX2_rowFor_36 P) := by
  unfold bX2_rowFor_36
  refine sm_aload_n (pc := 36) (n := 0) dX2_rowFor_36 rfl ?_
  refine gf_X2_53 (pc := 37) rfl dX2_rowFor_37 ?_
  refine gf_X2_178 (pc := 40) rfl dX2_rowFor_40 ?_
  refine sm_iload_n (pc := 43) (n := 2) dX2_rowFor_43 rfl ?_
  refine sm_aaload (pc := 44) dX2_rowFor_44 ?_
  exact sm_areturn (pc := 45) dX2_rowFor_45 rfl (by first | exact Or.inl ⟨_, rfl⟩ | exact Or.inr ⟨_, rfl⟩)
noncomputable def bX2_rowFor_56 {d : Nat} (P : zP d) : zK d := (xald 0 (xgfR 18 12 (xgfR 23 11 (xild 2 (xaal (xaret P))))))
set_option maxRecDepth 100000 in
set_option maxHeartbeats 4000000 in
theorem sbX2_rowFor_56 {d : Nat} [zGh] (P : zP d) : zSim X_X2_rowFor 1 P 56 (bX2_rowFor_56 P) := by
  unfold bX2_rowFor_56
  refine sm_aload_n (pc := 56) (n := 0) dX2_rowFor_56 rfl ?_
  refine gf_X2_49 (pc := 57) rfl dX2_rowFor_57 ?_
  refine gf_X2_185 (pc := 60) rfl dX2_rowFor_60 ?_
  refine sm_iload_n (pc := 63) (n := 2) dX2_rowFor_63 rfl ?_
  refine sm_aaload (pc := 64) dX2_rowFor_64 ?_
  exact sm_areturn (pc := 65) dX2_rowFor_65 rfl (by first | exact Or.inl ⟨_, rfl⟩ | exact Or.inr ⟨_, rfl⟩)
noncomputable def bX2_rowFor_46 {d : Nat} (P : zP d) : zK d := (xald 0 (xgfR 18 13 (xgfR 21 9 (xild 2 (xaal (xaret P))))))
set_option maxRecDepth 100000 in
set_option maxHeartbeats 4000000 in
theorem sbX2_rowFor_46 {d : Nat} [zGh] (P : zP d) : zSim X_X2_rowFor 1 P 46 (bX2_rowFor_46 P) := by
  unfold bX2_rowFor_46
  refine sm_aload_n (pc := 46) (n := 0) dX2_rowFor_46 rfl ?_
  refine gf_X2_53 (pc := 47) rfl dX2_rowFor_47 ?_
  refine gf_X2_182 (pc := 50) rfl dX2_rowFor_50 ?_
  refine sm_iload_n (pc := 53) (n := 2) dX2_rowFor_53 rfl ?_
  refine sm_aaload (pc := 54) dX2_rowFor_54 ?_
  exact sm_areturn (pc := 55) dX2_rowFor_55 rfl (by first | exact Or.inl ⟨_, rfl⟩ | exact Or.inr ⟨_, rfl⟩)
noncomputable def b_X2_rowFor {d : Nat} (P : zP d) : zK d := (xild 1 (xlsw [(68, (bX2_rowFor_36 P)), (77, (bX2_rowFor_56 P)), (80, (bX2_rowFor_46 P))] (bX2_rowFor_66 P)))
set_option maxRecDepth 100000 in
set_option maxHeartbeats 4000000 in
theorem s_X2_rowFor {d : Nat} [zGh] (P : zP d) : zSim X_X2_rowFor 1 P 0 (b_X2_rowFor P) := by
  unfold b_X2_rowFor
  refine sm_iload_n (pc := 0) (n := 1) dX2_rowFor_0 rfl ?_
  refine sm_lsw (pc := 1) (tdf := 66) [(68, 36), (77, 56), (80, 46)] dX2_rowFor_1 (by decide +kernel) (by decide +kernel) rfl (by decide) (sbX2_rowFor_66 P) (fun i n t k ht hk => ?_)
  match i, ht, hk with
  | 0, ht, hk => cases ht; cases hk; exact sbX2_rowFor_36 P
  | 1, ht, hk => cases ht; cases hk; exact sbX2_rowFor_56 P
  | 2, ht, hk => cases ht; cases hk; exact sbX2_rowFor_46 P
  | i + 3, ht, hk => cases ht
noncomputable def f_X2_rowFor {d : Nat} : List zV → zH d → zP d → Bool := zfn 3 b_X2_rowFor
theorem m_X2_rowFor {d : Nat} : zMet (d := d) X_X2_rowFor yX2_rowFor 1 f_X2_rowFor := zmet_mk (X := X_X2_rowFor) (by decide) rfl rfl s_X2_rowFor

abbrev X_X2_takeCharacter : zM := (RX2, cX2_takeCharacter, 4, (some .boolean), "takeCharacter")
noncomputable def bX2_takeCharacter_86 {d : Nat} (P : zP d) : zK d := (xald 0 (xald 0 (xild 2 (xild 3 (xcV 18 3 0 0 f_X2_rowFor (xald 0 (xgfR 18 3 (xild 1 (xaal (xcV 18 3 0 0 f_X2_copy (xpI 1 (xzret P))))))))))))
set_option maxRecDepth 100000 in
set_option maxHeartbeats 4000000 in
theorem sbX2_takeCharacter_86 {d : Nat} [zGh] (P : zP d) : zSim X_X2_takeCharacter 3 P 86 (bX2_takeCharacter_86 P) := by
  unfold bX2_takeCharacter_86
  refine sm_aload_n (pc := 86) (n := 0) dX2_takeCharacter_86 rfl ?_
  refine sm_aload_n (pc := 87) (n := 0) dX2_takeCharacter_87 rfl ?_
  refine sm_iload_n (pc := 88) (n := 2) dX2_takeCharacter_88 rfl ?_
  refine sm_iload_n (pc := 89) (n := 3) dX2_takeCharacter_89 rfl ?_
  refine sm_cV (pc := 90) (ci := 2) (n := 3) (mc := 0) (ms := 0) rfl m_X2_rowFor (cr_X2_174 (X := X_X2_takeCharacter) (fr := 3) (frc := 1) (pc := 90) (mc := 0) (ms := 0) rfl (by decide) dX2_takeCharacter_90) ?_
  refine sm_aload_n (pc := 93) (n := 0) dX2_takeCharacter_93 rfl ?_
  refine gf_X2_26 (pc := 94) rfl dX2_takeCharacter_94 ?_
  refine sm_iload_n (pc := 97) (n := 1) dX2_takeCharacter_97 rfl ?_
  refine sm_aaload (pc := 98) dX2_takeCharacter_98 ?_
  refine sm_cV (pc := 99) (ci := 2) (n := 3) (mc := 0) (ms := 0) rfl m_X2_copy (cr_X2_143 (X := X_X2_takeCharacter) (fr := 3) (frc := 1) (pc := 99) (mc := 0) (ms := 0) rfl (by decide) dX2_takeCharacter_99) ?_
  refine sm_iconst (pc := 102) dX2_takeCharacter_102 zc_i_1 ?_
  exact sm_zreturn (pc := 103) dX2_takeCharacter_103 rfl
noncomputable def bX2_takeCharacter_61 {d : Nat} (P : zP d) (j86 : zK d) : zK d := (xald 0 (xgfR 18 13 (xild 3 (xcV 21 2 0 0 f_X5_isRegular (xif0 t0eq (xald 0 (xpI 3 (xald 0 (xgfR 18 6 (xild 1 (xald1 0 (xild 1 (xpI 0 (xcV 18 5 0 0 f_X2_fail (xzret P)))))))))) j86)))))
set_option maxRecDepth 100000 in
set_option maxHeartbeats 4000000 in
theorem sbX2_takeCharacter_61 {d : Nat} [zGh] (P : zP d) (j86 : zK d) (hj86 : zSim X_X2_takeCharacter 3 P 86 j86) : zSim X_X2_takeCharacter 3 P 61 (bX2_takeCharacter_61 P j86) := by
  unfold bX2_takeCharacter_61
  refine sm_aload_n (pc := 61) (n := 0) dX2_takeCharacter_61 rfl ?_
  refine gf_X2_53 (pc := 62) rfl dX2_takeCharacter_62 ?_
  refine sm_iload_n (pc := 65) (n := 3) dX2_takeCharacter_65 rfl ?_
  refine sm_cV (pc := 66) (ci := 5) (n := 2) (mc := 0) (ms := 0) rfl m_X5_isRegular (cr_X2_169 (X := X_X2_takeCharacter) (fr := 3) (frc := 1) (pc := 66) (mc := 0) (ms := 0) rfl (by decide) dX2_takeCharacter_66) ?_
  refine sm_if_ne (pc := 69) (tgt := 86) dX2_takeCharacter_69 (by decide) ?_ ?_
  · skip
    exact hj86
  · skip
    refine sm_aload_n (pc := 72) (n := 0) dX2_takeCharacter_72 rfl ?_
    refine sm_iconst (pc := 73) dX2_takeCharacter_73 zc_i_3 ?_
    refine sm_aload_n (pc := 74) (n := 0) dX2_takeCharacter_74 rfl ?_
    refine gf_X2_36 (pc := 75) rfl dX2_takeCharacter_75 ?_
    refine sm_iload_n (pc := 78) (n := 1) dX2_takeCharacter_78 rfl ?_
    refine sm_iaload (pc := 79) dX2_takeCharacter_79 ?_
    refine sm_iload_n (pc := 80) (n := 1) dX2_takeCharacter_80 rfl ?_
    refine sm_iconst (pc := 81) dX2_takeCharacter_81 zc_i_0 ?_
    refine sm_cV (pc := 82) (ci := 2) (n := 5) (mc := 0) (ms := 0) rfl m_X2_fail (cr_X2_115 (X := X_X2_takeCharacter) (fr := 3) (frc := 2) (pc := 82) (mc := 0) (ms := 0) rfl (by decide) dX2_takeCharacter_82) ?_
    exact sm_zreturn (pc := 85) dX2_takeCharacter_85 rfl
noncomputable def bX2_takeCharacter_31 {d : Nat} (P : zP d) : zK d := (xist 3 (xild 3 (xpI 4294967295 (xcmp Nat.beq (xald 0 (xpI 2 (xald 0 (xgfI 18 9 (xild 1 (xpI 0 (xcV 18 5 0 0 f_X2_fail (xzret P)))))))) (xild 2 (xpI 68 (xjoin (bX2_takeCharacter_86 P) (fun j86 => (xjoin (bX2_takeCharacter_61 P j86) (fun j61 => (xcmp Nat.beq j61 (xild 2 (xpI 80 (xcmp Nat.beq j61 j86))))))))))))))
set_option maxRecDepth 100000 in
set_option maxHeartbeats 4000000 in
theorem sbX2_takeCharacter_31 {d : Nat} [zGh] (P : zP d) : zSim X_X2_takeCharacter 3 P 31 (bX2_takeCharacter_31 P) := by
  unfold bX2_takeCharacter_31
  refine sm_istore_n (pc := 31) (n := 3) dX2_takeCharacter_31 rfl ?_
  refine sm_iload_n (pc := 32) (n := 3) dX2_takeCharacter_32 rfl ?_
  refine sm_iconst (pc := 33) dX2_takeCharacter_33 zc_i_m1 ?_
  refine sm_icmp_ne (pc := 34) (tgt := 49) dX2_takeCharacter_34 (by decide) ?_ ?_
  · skip
    refine sm_iload_n (pc := 49) (n := 2) dX2_takeCharacter_49 rfl ?_
    refine sm_bipush (pc := 50) dX2_takeCharacter_50 zc_b_68 ?_
    refine sm_join (pc := 52) (pc' := 86) (sbX2_takeCharacter_86 P) (fun j86 hj86 => ?_)
    refine sm_join (pc := 52) (pc' := 61) (sbX2_takeCharacter_61 P j86 hj86) (fun j61 hj61 => ?_)
    refine sm_icmp_eq (pc := 52) (tgt := 61) dX2_takeCharacter_52 (by decide) ?_ ?_
    · skip
      exact hj61
    · skip
      refine sm_iload_n (pc := 55) (n := 2) dX2_takeCharacter_55 rfl ?_
      refine sm_bipush (pc := 56) dX2_takeCharacter_56 zc_b_80 ?_
      refine sm_icmp_ne (pc := 58) (tgt := 86) dX2_takeCharacter_58 (by decide) ?_ ?_
      · skip
        exact hj86
      · skip
        exact hj61
  · skip
    refine sm_aload_n (pc := 37) (n := 0) dX2_takeCharacter_37 rfl ?_
    refine sm_iconst (pc := 38) dX2_takeCharacter_38 zc_i_2 ?_
    refine sm_aload_n (pc := 39) (n := 0) dX2_takeCharacter_39 rfl ?_
    refine gf_X2_159 (pc := 40) rfl dX2_takeCharacter_40 ?_
    refine sm_iload_n (pc := 43) (n := 1) dX2_takeCharacter_43 rfl ?_
    refine sm_iconst (pc := 44) dX2_takeCharacter_44 zc_i_0 ?_
    refine sm_cV (pc := 45) (ci := 2) (n := 5) (mc := 0) (ms := 0) rfl m_X2_fail (cr_X2_115 (X := X_X2_takeCharacter) (fr := 3) (frc := 2) (pc := 45) (mc := 0) (ms := 0) rfl (by decide) dX2_takeCharacter_45) ?_
    exact sm_zreturn (pc := 48) dX2_takeCharacter_48 rfl
noncomputable def b_X2_takeCharacter {d : Nat} (P : zP d) : zK d := (xald 0 (xgfI 18 8 (xald 0 (xgfR 18 7 (xlen (xjoin (bX2_takeCharacter_31 P) (fun j31 => (xcmp tle (xald 0 (xgfR 18 12 (xald 0 (xgfR 18 7 (xald 0 (xgfI 18 8 (xcV 23 3 0 0 f_X7_numberOf j31))))))) (xpI 4294967295 j31)))))))))
set_option maxRecDepth 100000 in
set_option maxHeartbeats 4000000 in
theorem s_X2_takeCharacter {d : Nat} [zGh] (P : zP d) : zSim X_X2_takeCharacter 3 P 0 (b_X2_takeCharacter P) := by
  unfold b_X2_takeCharacter
  refine sm_aload_n (pc := 0) (n := 0) dX2_takeCharacter_0 rfl ?_
  refine gf_X2_162 (pc := 1) rfl dX2_takeCharacter_1 ?_
  refine sm_aload_n (pc := 4) (n := 0) dX2_takeCharacter_4 rfl ?_
  refine gf_X2_39 (pc := 5) rfl dX2_takeCharacter_5 ?_
  refine sm_arraylength (pc := 8) dX2_takeCharacter_8 ?_
  refine sm_join (pc := 9) (pc' := 31) (sbX2_takeCharacter_31 P) (fun j31 hj31 => ?_)
  refine sm_icmp_gt (pc := 9) (tgt := 30) dX2_takeCharacter_9 (by decide) ?_ ?_
  · skip
    refine sm_iconst (pc := 30) dX2_takeCharacter_30 zc_i_m1 ?_
    exact hj31
  · skip
    refine sm_aload_n (pc := 12) (n := 0) dX2_takeCharacter_12 rfl ?_
    refine gf_X2_49 (pc := 13) rfl dX2_takeCharacter_13 ?_
    refine sm_aload_n (pc := 16) (n := 0) dX2_takeCharacter_16 rfl ?_
    refine gf_X2_39 (pc := 17) rfl dX2_takeCharacter_17 ?_
    refine sm_aload_n (pc := 20) (n := 0) dX2_takeCharacter_20 rfl ?_
    refine gf_X2_162 (pc := 21) rfl dX2_takeCharacter_21 ?_
    refine sm_cV (pc := 24) (ci := 7) (n := 3) (mc := 0) (ms := 0) rfl m_X7_numberOf (cr_X2_165 (X := X_X2_takeCharacter) (fr := 3) (frc := 1) (pc := 24) (mc := 0) (ms := 0) rfl (by decide) dX2_takeCharacter_24) ?_
    refine sm_goto (pc := 27) (tgt := 31) dX2_takeCharacter_27 (by decide) ?_
    exact hj31
noncomputable def f_X2_takeCharacter {d : Nat} : List zV → zH d → zP d → Bool := zfn 4 b_X2_takeCharacter
theorem m_X2_takeCharacter {d : Nat} : zMet (d := d) X_X2_takeCharacter yX2_takeCharacter 3 f_X2_takeCharacter := zmet_mk (X := X_X2_takeCharacter) (by decide) rfl rfl s_X2_takeCharacter

abbrev X_X2_readList : zM := (RX2, cX2_readList, 4, (some .boolean), "readList")
noncomputable def bX2_readList_84 {d : Nat} (P : zP d) (r33 : zK d) : zK d := (xald 0 (xdup (xgfI 18 8 (xpI 1 (xbin zadd (xpfI 18 8 (xald 0 (xcV 18 1 0 0 f_X2_next (xist 3 (xild 3 (xpI 93 (xcmp Nat.beq (xald 0 (xdup (xgfI 18 14 (xpI 1 (xbin zadd (xpfI 18 14 (xpI 1 (xzret P)))))))) (xild 3 (xpI 44 (xcmp Nat.beq (xinc 1 1 r33) (xald 0 (xald 0 (xgfI 18 14 (xcV 18 2 0 0 f_X2_refuse (xzret P))))))))))))))))))))
set_option maxRecDepth 100000 in
set_option maxHeartbeats 4000000 in
theorem sbX2_readList_84 {d : Nat} [zGh] (P : zP d) (r33 : zK d) (hr33 : zSim X_X2_readList 3 P 33 r33) : zSim X_X2_readList 3 P 84 (bX2_readList_84 P r33) := by
  unfold bX2_readList_84
  refine sm_aload_n (pc := 84) (n := 0) dX2_readList_84 rfl ?_
  refine sm_dup (pc := 85) dX2_readList_85 ?_
  refine gf_X2_162 (pc := 86) rfl dX2_readList_86 ?_
  refine sm_iconst (pc := 89) dX2_readList_89 zc_i_1 ?_
  refine sm_iadd (pc := 90) dX2_readList_90 ?_
  refine pf_X2_162 (pc := 91) rfl dX2_readList_91 ?_
  refine sm_aload_n (pc := 94) (n := 0) dX2_readList_94 rfl ?_
  refine sm_cV (pc := 95) (ci := 2) (n := 1) (mc := 0) (ms := 0) rfl m_X2_next (cr_X2_74 (X := X_X2_readList) (fr := 3) (frc := 1) (pc := 95) (mc := 0) (ms := 0) rfl (by decide) dX2_readList_95) ?_
  refine sm_istore_n (pc := 98) (n := 3) dX2_readList_98 rfl ?_
  refine sm_iload_n (pc := 99) (n := 3) dX2_readList_99 rfl ?_
  refine sm_bipush (pc := 100) dX2_readList_100 zc_b_93 ?_
  refine sm_icmp_ne (pc := 102) (tgt := 117) dX2_readList_102 (by decide) ?_ ?_
  · skip
    refine sm_iload_n (pc := 117) (n := 3) dX2_readList_117 rfl ?_
    refine sm_bipush (pc := 118) dX2_readList_118 zc_b_44 ?_
    refine sm_icmp_eq (pc := 120) (tgt := 132) dX2_readList_120 (by decide) ?_ ?_
    · skip
      refine sm_iinc (pc := 132) (n := 1) dX2_readList_132 zc_i_1 ?_
      refine sm_goto (pc := 135) (tgt := 33) dX2_readList_135 (by decide) ?_
      exact hr33
    · skip
      refine sm_aload_n (pc := 123) (n := 0) dX2_readList_123 rfl ?_
      refine sm_aload_n (pc := 124) (n := 0) dX2_readList_124 rfl ?_
      refine gf_X2_60 (pc := 125) rfl dX2_readList_125 ?_
      refine sm_cV (pc := 128) (ci := 2) (n := 2) (mc := 0) (ms := 0) rfl m_X2_refuse (cr_X2_78 (X := X_X2_readList) (fr := 3) (frc := 2) (pc := 128) (mc := 0) (ms := 0) rfl (by decide) dX2_readList_128) ?_
      exact sm_zreturn (pc := 131) dX2_readList_131 rfl
  · skip
    refine sm_aload_n (pc := 105) (n := 0) dX2_readList_105 rfl ?_
    refine sm_dup (pc := 106) dX2_readList_106 ?_
    refine gf_X2_60 (pc := 107) rfl dX2_readList_107 ?_
    refine sm_iconst (pc := 110) dX2_readList_110 zc_i_1 ?_
    refine sm_iadd (pc := 111) dX2_readList_111 ?_
    refine pf_X2_60 (pc := 112) rfl dX2_readList_112 ?_
    refine sm_iconst (pc := 115) dX2_readList_115 zc_i_1 ?_
    exact sm_zreturn (pc := 116) dX2_readList_116 rfl
noncomputable def cX2_readList_79 {d : Nat} (P : zP d) (j84 : zK d) : zK d := (xgfI 18 8 (xild 2 (xast1 0 (fun v => v) j84)))
set_option maxRecDepth 100000 in
set_option maxHeartbeats 4000000 in
theorem scX2_readList_79 {d : Nat} [zGh] (P : zP d) (j84 : zK d) (hj84 : zSim X_X2_readList 3 P 84 j84) : zSim X_X2_readList 3 P 79 (cX2_readList_79 P j84) := by
  unfold cX2_readList_79
  refine gf_X2_162 (pc := 79) rfl dX2_readList_79 ?_
  refine sm_iload_n (pc := 82) (n := 2) dX2_readList_82 rfl ?_
  refine sm_iastore (pc := 83) dX2_readList_83 ?_
  exact hj84
noncomputable def lX2_readList_33 {d : Nat} (P : zP d) (r33 : zK d) : zK d := (xild 1 (xpI 200 (xcmp tge (xald 0 (xald 0 (xgfI 18 14 (xcV 18 2 0 0 f_X2_refuse (xzret P))))) (xald 0 (xdup (xgfI 18 14 (xpI 1 (xbin zadd (xpfI 18 14 (xald 0 (xcV 18 1 0 0 f_X2_readNumber (xist 2 (xild 2 (xpI 4294967295 (xcmp Nat.beq (xpI 0 (xzret P)) (xald 0 (xgfI 18 8 (xald 0 (xgfR 18 7 (xlen (xjoin (bX2_readList_84 P r33) (fun j84 => (xcmp tge j84 (xald 0 (xgfR 18 7 (xald 0 (cX2_readList_79 P j84)))))))))))))))))))))))))))
set_option maxRecDepth 100000 in
set_option maxHeartbeats 4000000 in
theorem slX2_readList_33 {d : Nat} [zGh] (P : zP d) (r33 : zK d) (hr33 : zSim X_X2_readList 3 P 33 r33) : zSim X_X2_readList 3 P 33 (lX2_readList_33 P r33) := by
  unfold lX2_readList_33
  refine sm_iload_n (pc := 33) (n := 1) dX2_readList_33 rfl ?_
  refine sm_sipush (pc := 34) dX2_readList_34 zc_s_200 ?_
  refine sm_icmp_ge (pc := 37) (tgt := 138) dX2_readList_37 (by decide) ?_ ?_
  · skip
    refine sm_aload_n (pc := 138) (n := 0) dX2_readList_138 rfl ?_
    refine sm_aload_n (pc := 139) (n := 0) dX2_readList_139 rfl ?_
    refine gf_X2_60 (pc := 140) rfl dX2_readList_140 ?_
    refine sm_cV (pc := 143) (ci := 2) (n := 2) (mc := 0) (ms := 0) rfl m_X2_refuse (cr_X2_78 (X := X_X2_readList) (fr := 3) (frc := 2) (pc := 143) (mc := 0) (ms := 0) rfl (by decide) dX2_readList_143) ?_
    exact sm_zreturn (pc := 146) dX2_readList_146 rfl
  · skip
    refine sm_aload_n (pc := 40) (n := 0) dX2_readList_40 rfl ?_
    refine sm_dup (pc := 41) dX2_readList_41 ?_
    refine gf_X2_60 (pc := 42) rfl dX2_readList_42 ?_
    refine sm_iconst (pc := 45) dX2_readList_45 zc_i_1 ?_
    refine sm_iadd (pc := 46) dX2_readList_46 ?_
    refine pf_X2_60 (pc := 47) rfl dX2_readList_47 ?_
    refine sm_aload_n (pc := 50) (n := 0) dX2_readList_50 rfl ?_
    refine sm_cV (pc := 51) (ci := 2) (n := 1) (mc := 0) (ms := 0) rfl m_X2_readNumber (cr_X2_153 (X := X_X2_readList) (fr := 3) (frc := 2) (pc := 51) (mc := 0) (ms := 0) rfl (by decide) dX2_readList_51) ?_
    refine sm_istore_n (pc := 54) (n := 2) dX2_readList_54 rfl ?_
    refine sm_iload_n (pc := 55) (n := 2) dX2_readList_55 rfl ?_
    refine sm_iconst (pc := 56) dX2_readList_56 zc_i_m1 ?_
    refine sm_icmp_ne (pc := 57) (tgt := 62) dX2_readList_57 (by decide) ?_ ?_
    · skip
      refine sm_aload_n (pc := 62) (n := 0) dX2_readList_62 rfl ?_
      refine gf_X2_162 (pc := 63) rfl dX2_readList_63 ?_
      refine sm_aload_n (pc := 66) (n := 0) dX2_readList_66 rfl ?_
      refine gf_X2_39 (pc := 67) rfl dX2_readList_67 ?_
      refine sm_arraylength (pc := 70) dX2_readList_70 ?_
      refine sm_join (pc := 71) (pc' := 84) (sbX2_readList_84 P r33 hr33) (fun j84 hj84 => ?_)
      refine sm_icmp_ge (pc := 71) (tgt := 84) dX2_readList_71 (by decide) ?_ ?_
      · skip
        exact hj84
      · skip
        refine sm_aload_n (pc := 74) (n := 0) dX2_readList_74 rfl ?_
        refine gf_X2_39 (pc := 75) rfl dX2_readList_75 ?_
        refine sm_aload_n (pc := 78) (n := 0) dX2_readList_78 rfl ?_
        exact scX2_readList_79 P j84 hj84
    · skip
      refine sm_iconst (pc := 60) dX2_readList_60 zc_i_0 ?_
      exact sm_zreturn (pc := 61) dX2_readList_61 rfl
noncomputable def b_X2_readList {d : Nat} (P : zP d) : zK d := (xald 0 (xcV 18 1 0 0 f_X2_next (xpI 91 (xcmp Nat.beq (xald 0 (xald 0 (xgfI 18 14 (xpfI 18 9 (xald 0 (xpI 0 (xpfI 18 8 (xpI 0 (xist 1 (xloop (fun r33 => (lX2_readList_33 P r33)) 100000)))))))))) (xald 0 (xald 0 (xgfI 18 14 (xcV 18 2 0 0 f_X2_refuse (xzret P)))))))))
set_option maxRecDepth 100000 in
set_option maxHeartbeats 4000000 in
theorem s_X2_readList {d : Nat} [zGh] (P : zP d) : zSim X_X2_readList 3 P 0 (b_X2_readList P) := by
  unfold b_X2_readList
  refine sm_aload_n (pc := 0) (n := 0) dX2_readList_0 rfl ?_
  refine sm_cV (pc := 1) (ci := 2) (n := 1) (mc := 0) (ms := 0) rfl m_X2_next (cr_X2_74 (X := X_X2_readList) (fr := 3) (frc := 1) (pc := 1) (mc := 0) (ms := 0) rfl (by decide) dX2_readList_1) ?_
  refine sm_bipush (pc := 4) dX2_readList_4 zc_b_91 ?_
  refine sm_icmp_eq (pc := 6) (tgt := 18) dX2_readList_6 (by decide) ?_ ?_
  · skip
    refine sm_aload_n (pc := 18) (n := 0) dX2_readList_18 rfl ?_
    refine sm_aload_n (pc := 19) (n := 0) dX2_readList_19 rfl ?_
    refine gf_X2_60 (pc := 20) rfl dX2_readList_20 ?_
    refine pf_X2_159 (pc := 23) rfl dX2_readList_23 ?_
    refine sm_aload_n (pc := 26) (n := 0) dX2_readList_26 rfl ?_
    refine sm_iconst (pc := 27) dX2_readList_27 zc_i_0 ?_
    refine pf_X2_162 (pc := 28) rfl dX2_readList_28 ?_
    refine sm_iconst (pc := 31) dX2_readList_31 zc_i_0 ?_
    refine sm_istore_n (pc := 32) (n := 1) dX2_readList_32 rfl ?_
    exact sm_loop (fun r33 hr33 => slX2_readList_33 P r33 hr33) _
  · skip
    refine sm_aload_n (pc := 9) (n := 0) dX2_readList_9 rfl ?_
    refine sm_aload_n (pc := 10) (n := 0) dX2_readList_10 rfl ?_
    refine gf_X2_60 (pc := 11) rfl dX2_readList_11 ?_
    refine sm_cV (pc := 14) (ci := 2) (n := 2) (mc := 0) (ms := 0) rfl m_X2_refuse (cr_X2_78 (X := X_X2_readList) (fr := 3) (frc := 2) (pc := 14) (mc := 0) (ms := 0) rfl (by decide) dX2_readList_14) ?_
    exact sm_zreturn (pc := 17) dX2_readList_17 rfl
noncomputable def f_X2_readList {d : Nat} : List zV → zH d → zP d → Bool := zfn 4 b_X2_readList
theorem m_X2_readList {d : Nat} : zMet (d := d) X_X2_readList yX2_readList 3 f_X2_readList := zmet_mk (X := X_X2_readList) (by decide) rfl rfl s_X2_readList

abbrev X_X2_readConstant : zM := (RX2, cX2_readConstant, 3, (some .boolean), "readConstant")
noncomputable def b_X2_readConstant {d : Nat} (P : zP d) : zK d := (xald 0 (xcV 18 1 0 0 f_X2_readNumber (xist 2 (xild 2 (xpI 4294967295 (xcmp Nat.beq (xpI 0 (xzret P)) (xald 0 (xgfR 18 3 (xild 1 (xaal (xild 2 (xi2l (xcS 2 0 0 f_J7_fill_d0a16 (xpI 1 (xzret P)))))))))))))))
set_option maxRecDepth 100000 in
set_option maxHeartbeats 4000000 in
theorem s_X2_readConstant {d : Nat} [zGh] (P : zP d) : zSim X_X2_readConstant 3 P 0 (b_X2_readConstant P) := by
  unfold b_X2_readConstant
  refine sm_aload_n (pc := 0) (n := 0) dX2_readConstant_0 rfl ?_
  refine sm_cV (pc := 1) (ci := 2) (n := 1) (mc := 0) (ms := 0) rfl m_X2_readNumber (cr_X2_153 (X := X_X2_readConstant) (fr := 3) (frc := 2) (pc := 1) (mc := 0) (ms := 0) rfl (by decide) dX2_readConstant_1) ?_
  refine sm_istore_n (pc := 4) (n := 2) dX2_readConstant_4 rfl ?_
  refine sm_iload_n (pc := 5) (n := 2) dX2_readConstant_5 rfl ?_
  refine sm_iconst (pc := 6) dX2_readConstant_6 zc_i_m1 ?_
  refine sm_icmp_ne (pc := 7) (tgt := 12) dX2_readConstant_7 (by decide) ?_ ?_
  · skip
    refine sm_aload_n (pc := 12) (n := 0) dX2_readConstant_12 rfl ?_
    refine gf_X2_26 (pc := 13) rfl dX2_readConstant_13 ?_
    refine sm_iload_n (pc := 16) (n := 1) dX2_readConstant_16 rfl ?_
    refine sm_aaload (pc := 17) dX2_readConstant_17 ?_
    refine sm_iload_n (pc := 18) (n := 2) dX2_readConstant_18 rfl ?_
    refine sm_i2l (pc := 19) dX2_readConstant_19 ?_
    refine sm_cS (pc := 20) (n := 2) (mc := 0) (ms := 0) m_J7_fill_d0a16 (cr_X2_64 (X := X_X2_readConstant) (fr := 3) (frc := 1) (pc := 20) (mc := 0) (ms := 0) rfl (by decide) dX2_readConstant_20) ?_
    refine sm_iconst (pc := 23) dX2_readConstant_23 zc_i_1 ?_
    exact sm_zreturn (pc := 24) dX2_readConstant_24 rfl
  · skip
    refine sm_iconst (pc := 10) dX2_readConstant_10 zc_i_0 ?_
    exact sm_zreturn (pc := 11) dX2_readConstant_11 rfl
noncomputable def f_X2_readConstant {d : Nat} : List zV → zH d → zP d → Bool := zfn 3 b_X2_readConstant
theorem m_X2_readConstant {d : Nat} : zMet (d := d) X_X2_readConstant yX2_readConstant 3 f_X2_readConstant := zmet_mk (X := X_X2_readConstant) (by decide) rfl rfl s_X2_readConstant

abbrev X_X2_readSlot : zM := (RX2, cX2_readSlot, 4, (some .boolean), "readSlot")
noncomputable def cX2_readSlot_51 {d : Nat} (P : zP d) : zK d := (xpI 0 (xald 0 (xgfR 18 12 (xgfI 23 1 (xcpy 2 72 (xpI 1 (xzret P)))))))
set_option maxRecDepth 100000 in
set_option maxHeartbeats 4000000 in
theorem scX2_readSlot_51 {d : Nat} [zGh] (P : zP d) : zSim X_X2_readSlot 3 P 51 (cX2_readSlot_51 P) := by
  unfold cX2_readSlot_51
  refine sm_iconst (pc := 51) dX2_readSlot_51 zc_i_0 ?_
  refine sm_aload_n (pc := 52) (n := 0) dX2_readSlot_52 rfl ?_
  refine gf_X2_49 (pc := 53) rfl dX2_readSlot_53 ?_
  refine gf_X2_100 (pc := 56) rfl dX2_readSlot_56 ?_
  refine sm_copyJ (pc := 59) wd_753 wd_80 wd_79 wd_7 (by decide) dX2_readSlot_59 ?_
  refine sm_iconst (pc := 62) dX2_readSlot_62 zc_i_1 ?_
  exact sm_zreturn (pc := 63) dX2_readSlot_63 rfl
noncomputable def b_X2_readSlot {d : Nat} (P : zP d) : zK d := (xald 0 (xcV 18 1 0 0 f_X2_next (xpop (xald 0 (xgfI 18 14 (xist 2 (xald 0 (xcV 18 1 0 0 f_X2_readNumber (xist 3 (xild 3 (xpI 4294967295 (xcmp Nat.beq (xpI 0 (xzret P)) (xild 3 (xcS 1 0 0 f_X8_isSlot (xif0 t0eq (xald 0 (xpI 4 (xild 2 (xild 1 (xpI 0 (xcV 18 5 0 0 f_X2_fail (xzret P))))))) (xald 0 (xgfR 18 11 (xild 3 (xaal (xpI 0 (xald 0 (xgfR 18 3 (xild 1 (xaal (cX2_readSlot_51 P)))))))))))))))))))))))))
set_option maxRecDepth 100000 in
set_option maxHeartbeats 4000000 in
theorem s_X2_readSlot {d : Nat} [zGh] (P : zP d) : zSim X_X2_readSlot 3 P 0 (b_X2_readSlot P) := by
  unfold b_X2_readSlot
  refine sm_aload_n (pc := 0) (n := 0) dX2_readSlot_0 rfl ?_
  refine sm_cV (pc := 1) (ci := 2) (n := 1) (mc := 0) (ms := 0) rfl m_X2_next (cr_X2_74 (X := X_X2_readSlot) (fr := 3) (frc := 1) (pc := 1) (mc := 0) (ms := 0) rfl (by decide) dX2_readSlot_1) ?_
  refine sm_pop (pc := 4) dX2_readSlot_4 ?_
  refine sm_aload_n (pc := 5) (n := 0) dX2_readSlot_5 rfl ?_
  refine gf_X2_60 (pc := 6) rfl dX2_readSlot_6 ?_
  refine sm_istore_n (pc := 9) (n := 2) dX2_readSlot_9 rfl ?_
  refine sm_aload_n (pc := 10) (n := 0) dX2_readSlot_10 rfl ?_
  refine sm_cV (pc := 11) (ci := 2) (n := 1) (mc := 0) (ms := 0) rfl m_X2_readNumber (cr_X2_153 (X := X_X2_readSlot) (fr := 3) (frc := 2) (pc := 11) (mc := 0) (ms := 0) rfl (by decide) dX2_readSlot_11) ?_
  refine sm_istore_n (pc := 14) (n := 3) dX2_readSlot_14 rfl ?_
  refine sm_iload_n (pc := 15) (n := 3) dX2_readSlot_15 rfl ?_
  refine sm_iconst (pc := 16) dX2_readSlot_16 zc_i_m1 ?_
  refine sm_icmp_ne (pc := 17) (tgt := 22) dX2_readSlot_17 (by decide) ?_ ?_
  · skip
    refine sm_iload_n (pc := 22) (n := 3) dX2_readSlot_22 rfl ?_
    refine sm_cS (pc := 23) (n := 1) (mc := 0) (ms := 0) m_X8_isSlot (cr_X2_156 (X := X_X2_readSlot) (fr := 3) (frc := 1) (pc := 23) (mc := 0) (ms := 0) rfl (by decide) dX2_readSlot_23) ?_
    refine sm_if_ne (pc := 26) (tgt := 38) dX2_readSlot_26 (by decide) ?_ ?_
    · skip
      refine sm_aload_n (pc := 38) (n := 0) dX2_readSlot_38 rfl ?_
      refine gf_X2_46 (pc := 39) rfl dX2_readSlot_39 ?_
      refine sm_iload_n (pc := 42) (n := 3) dX2_readSlot_42 rfl ?_
      refine sm_aaload (pc := 43) dX2_readSlot_43 ?_
      refine sm_iconst (pc := 44) dX2_readSlot_44 zc_i_0 ?_
      refine sm_aload_n (pc := 45) (n := 0) dX2_readSlot_45 rfl ?_
      refine gf_X2_26 (pc := 46) rfl dX2_readSlot_46 ?_
      refine sm_iload_n (pc := 49) (n := 1) dX2_readSlot_49 rfl ?_
      refine sm_aaload (pc := 50) dX2_readSlot_50 ?_
      exact scX2_readSlot_51 P
    · skip
      refine sm_aload_n (pc := 29) (n := 0) dX2_readSlot_29 rfl ?_
      refine sm_iconst (pc := 30) dX2_readSlot_30 zc_i_4 ?_
      refine sm_iload_n (pc := 31) (n := 2) dX2_readSlot_31 rfl ?_
      refine sm_iload_n (pc := 32) (n := 1) dX2_readSlot_32 rfl ?_
      refine sm_iconst (pc := 33) dX2_readSlot_33 zc_i_0 ?_
      refine sm_cV (pc := 34) (ci := 2) (n := 5) (mc := 0) (ms := 0) rfl m_X2_fail (cr_X2_115 (X := X_X2_readSlot) (fr := 3) (frc := 2) (pc := 34) (mc := 0) (ms := 0) rfl (by decide) dX2_readSlot_34) ?_
      exact sm_zreturn (pc := 37) dX2_readSlot_37 rfl
  · skip
    refine sm_iconst (pc := 20) dX2_readSlot_20 zc_i_0 ?_
    exact sm_zreturn (pc := 21) dX2_readSlot_21 rfl
noncomputable def f_X2_readSlot {d : Nat} : List zV → zH d → zP d → Bool := zfn 4 b_X2_readSlot
theorem m_X2_readSlot {d : Nat} : zMet (d := d) X_X2_readSlot yX2_readSlot 3 f_X2_readSlot := zmet_mk (X := X_X2_readSlot) (by decide) rfl rfl s_X2_readSlot

abbrev X_X2_readSum : zM := (RX2, cX2_readSum, 5, (some .boolean), "readSum")

abbrev X_X2_readInBrackets : zM := (RX2, cX2_readInBrackets, 2, (some .boolean), "readInBrackets")
noncomputable def cX2_readInBrackets_64 {d : Nat} (self : List zV → zH d → zP d → Bool) (P : zP d) : zK d := (xpI 1 (xbin zadd (xpfI 18 14 (xald 0 (xgfR 18 1 (xild 1 (xpI 1 (xbin zadd (xaal (xpI 0 (xald 0 (xgfR 18 3 (xild 1 (xaal (xpI 0 (xald 0 (xgfR 18 12 (xgfI 23 1 (xcpy 2 72 (xpI 1 (xzret P)))))))))))))))))))))
set_option maxRecDepth 100000 in
set_option maxHeartbeats 4000000 in
theorem scX2_readInBrackets_64 {d : Nat} [zGh] (n : Nat) (self : List zV → zH d → zP d → Bool) (hself : zMet X_X2_readSum yX2_readSum (4 + 4 * n) self) (P : zP d) : zSim X_X2_readInBrackets (4 + 4 * n + 1) P 64 (cX2_readInBrackets_64 self P) := by
  unfold cX2_readInBrackets_64
  refine sm_iconst (pc := 64) dX2_readInBrackets_64 zc_i_1 ?_
  refine sm_iadd (pc := 65) dX2_readInBrackets_65 ?_
  refine pf_X2_60 (pc := 66) rfl dX2_readInBrackets_66 ?_
  refine sm_aload_n (pc := 69) (n := 0) dX2_readInBrackets_69 rfl ?_
  refine gf_X2_20 (pc := 70) rfl dX2_readInBrackets_70 ?_
  refine sm_iload_n (pc := 73) (n := 1) dX2_readInBrackets_73 rfl ?_
  refine sm_iconst (pc := 74) dX2_readInBrackets_74 zc_i_1 ?_
  refine sm_iadd (pc := 75) dX2_readInBrackets_75 ?_
  refine sm_aaload (pc := 76) dX2_readInBrackets_76 ?_
  refine sm_iconst (pc := 77) dX2_readInBrackets_77 zc_i_0 ?_
  refine sm_aload_n (pc := 78) (n := 0) dX2_readInBrackets_78 rfl ?_
  refine gf_X2_26 (pc := 79) rfl dX2_readInBrackets_79 ?_
  refine sm_iload_n (pc := 82) (n := 1) dX2_readInBrackets_82 rfl ?_
  refine sm_aaload (pc := 83) dX2_readInBrackets_83 ?_
  refine sm_iconst (pc := 84) dX2_readInBrackets_84 zc_i_0 ?_
  refine sm_aload_n (pc := 85) (n := 0) dX2_readInBrackets_85 rfl ?_
  refine gf_X2_49 (pc := 86) rfl dX2_readInBrackets_86 ?_
  refine gf_X2_100 (pc := 89) rfl dX2_readInBrackets_89 ?_
  refine sm_copyJ (pc := 92) wd_753 wd_80 wd_79 wd_7 (by omega) dX2_readInBrackets_92 ?_
  refine sm_iconst (pc := 95) dX2_readInBrackets_95 zc_i_1 ?_
  exact sm_zreturn (pc := 96) dX2_readInBrackets_96 rfl
noncomputable def cX2_readInBrackets_55 {d : Nat} (self : List zV → zH d → zP d → Bool) (P : zP d) : zK d := (xcV 18 2 0 0 f_X2_refuse (xzret P))
set_option maxRecDepth 100000 in
set_option maxHeartbeats 4000000 in
theorem scX2_readInBrackets_55 {d : Nat} [zGh] (n : Nat) (self : List zV → zH d → zP d → Bool) (hself : zMet X_X2_readSum yX2_readSum (4 + 4 * n) self) (P : zP d) : zSim X_X2_readInBrackets (4 + 4 * n + 1) P 55 (cX2_readInBrackets_55 self P) := by
  unfold cX2_readInBrackets_55
  refine sm_cV (pc := 55) (ci := 2) (n := 2) (mc := 0) (ms := 0) rfl m_X2_refuse (cr_X2_78 (X := X_X2_readInBrackets) (fr := 4 + 4 * n + 1) (frc := 2) (pc := 55) (mc := 0) (ms := 0) rfl (by omega) dX2_readInBrackets_55) ?_
  exact sm_zreturn (pc := 58) dX2_readInBrackets_58 rfl
noncomputable def b_X2_readInBrackets {d : Nat} (self : List zV → zH d → zP d → Bool) (P : zP d) : zK d := (xild 1 (xpI 1 (xbin zadd (xpI 5 (xcmp tge (xald 0 (xpI 5 (xald 0 (xgfI 18 14 (xild 1 (xpI 0 (xcV 18 5 0 0 f_X2_fail (xzret P)))))))) (xald 0 (xdup (xgfI 18 14 (xpI 1 (xbin zadd (xpfI 18 14 (xald 0 (xild 1 (xpI 1 (xbin zadd (xcV 18 2 0 0 self (xif0 t0eq (xpI 0 (xzret P)) (xald 0 (xcV 18 1 0 0 f_X2_next (xpI 41 (xcmp Nat.beq (xald 0 (xdup (xgfI 18 14 (cX2_readInBrackets_64 self P)))) (xald 0 (xald 0 (xgfI 18 14 (cX2_readInBrackets_55 self P)))))))))))))))))))))))))
set_option maxRecDepth 100000 in
set_option maxHeartbeats 4000000 in
theorem s_X2_readInBrackets {d : Nat} [zGh] (n : Nat) (self : List zV → zH d → zP d → Bool) (hself : zMet X_X2_readSum yX2_readSum (4 + 4 * n) self) (P : zP d) : zSim X_X2_readInBrackets (4 + 4 * n + 1) P 0 (b_X2_readInBrackets self P) := by
  unfold b_X2_readInBrackets
  refine sm_iload_n (pc := 0) (n := 1) dX2_readInBrackets_0 rfl ?_
  refine sm_iconst (pc := 1) dX2_readInBrackets_1 zc_i_1 ?_
  refine sm_iadd (pc := 2) dX2_readInBrackets_2 ?_
  refine sm_iconst (pc := 3) dX2_readInBrackets_3 zc_i_5 ?_
  refine sm_icmp_lt (pc := 4) (tgt := 19) dX2_readInBrackets_4 (by decide) ?_ ?_
  · skip
    refine sm_aload_n (pc := 19) (n := 0) dX2_readInBrackets_19 rfl ?_
    refine sm_dup (pc := 20) dX2_readInBrackets_20 ?_
    refine gf_X2_60 (pc := 21) rfl dX2_readInBrackets_21 ?_
    refine sm_iconst (pc := 24) dX2_readInBrackets_24 zc_i_1 ?_
    refine sm_iadd (pc := 25) dX2_readInBrackets_25 ?_
    refine pf_X2_60 (pc := 26) rfl dX2_readInBrackets_26 ?_
    refine sm_aload_n (pc := 29) (n := 0) dX2_readInBrackets_29 rfl ?_
    refine sm_iload_n (pc := 30) (n := 1) dX2_readInBrackets_30 rfl ?_
    refine sm_iconst (pc := 31) dX2_readInBrackets_31 zc_i_1 ?_
    refine sm_iadd (pc := 32) dX2_readInBrackets_32 ?_
    refine sm_cV (pc := 33) (ci := 2) (n := 2) (mc := 0) (ms := 0) rfl hself (cr_X2_70 (X := X_X2_readInBrackets) (fr := 4 + 4 * n + 1) (frc := 4 + 4 * n) (pc := 33) (mc := 0) (ms := 0) rfl (by omega) dX2_readInBrackets_33) ?_
    refine sm_if_ne (pc := 36) (tgt := 41) dX2_readInBrackets_36 (by decide) ?_ ?_
    · skip
      refine sm_aload_n (pc := 41) (n := 0) dX2_readInBrackets_41 rfl ?_
      refine sm_cV (pc := 42) (ci := 2) (n := 1) (mc := 0) (ms := 0) rfl m_X2_next (cr_X2_74 (X := X_X2_readInBrackets) (fr := 4 + 4 * n + 1) (frc := 1) (pc := 42) (mc := 0) (ms := 0) rfl (by omega) dX2_readInBrackets_42) ?_
      refine sm_bipush (pc := 45) dX2_readInBrackets_45 zc_b_41 ?_
      refine sm_icmp_eq (pc := 47) (tgt := 59) dX2_readInBrackets_47 (by decide) ?_ ?_
      · skip
        refine sm_aload_n (pc := 59) (n := 0) dX2_readInBrackets_59 rfl ?_
        refine sm_dup (pc := 60) dX2_readInBrackets_60 ?_
        refine gf_X2_60 (pc := 61) rfl dX2_readInBrackets_61 ?_
        exact scX2_readInBrackets_64 n self hself P
      · skip
        refine sm_aload_n (pc := 50) (n := 0) dX2_readInBrackets_50 rfl ?_
        refine sm_aload_n (pc := 51) (n := 0) dX2_readInBrackets_51 rfl ?_
        refine gf_X2_60 (pc := 52) rfl dX2_readInBrackets_52 ?_
        exact scX2_readInBrackets_55 n self hself P
    · skip
      refine sm_iconst (pc := 39) dX2_readInBrackets_39 zc_i_0 ?_
      exact sm_zreturn (pc := 40) dX2_readInBrackets_40 rfl
  · skip
    refine sm_aload_n (pc := 7) (n := 0) dX2_readInBrackets_7 rfl ?_
    refine sm_iconst (pc := 8) dX2_readInBrackets_8 zc_i_5 ?_
    refine sm_aload_n (pc := 9) (n := 0) dX2_readInBrackets_9 rfl ?_
    refine gf_X2_60 (pc := 10) rfl dX2_readInBrackets_10 ?_
    refine sm_iload_n (pc := 13) (n := 1) dX2_readInBrackets_13 rfl ?_
    refine sm_iconst (pc := 14) dX2_readInBrackets_14 zc_i_0 ?_
    refine sm_cV (pc := 15) (ci := 2) (n := 5) (mc := 0) (ms := 0) rfl m_X2_fail (cr_X2_115 (X := X_X2_readInBrackets) (fr := 4 + 4 * n + 1) (frc := 2) (pc := 15) (mc := 0) (ms := 0) rfl (by omega) dX2_readInBrackets_15) ?_
    exact sm_zreturn (pc := 18) dX2_readInBrackets_18 rfl
noncomputable def f_X2_readInBrackets {d : Nat} (self : List zV → zH d → zP d → Bool) : List zV → zH d → zP d → Bool := zfn 2 (b_X2_readInBrackets self)
theorem m_X2_readInBrackets {d : Nat} (n : Nat) (self : List zV → zH d → zP d → Bool) (hself : zMet X_X2_readSum yX2_readSum (4 + 4 * n) self) : zMet (d := d) X_X2_readInBrackets yX2_readInBrackets (4 + 4 * n + 1) (f_X2_readInBrackets self) := zmet_mk (X := X_X2_readInBrackets) (by decide) rfl rfl (s_X2_readInBrackets n self hself)

abbrev X_X2_readFactor : zM := (RX2, cX2_readFactor, 3, (some .boolean), "readFactor")
noncomputable def bX2_readFactor_201 {d : Nat} (self : List zV → zH d → zP d → Bool) (P : zP d) : zK d := (xald 0 (xald 0 (xgfI 18 14 (xcV 18 2 0 0 f_X2_refuse (xzret P)))))
set_option maxRecDepth 100000 in
set_option maxHeartbeats 4000000 in
theorem sbX2_readFactor_201 {d : Nat} [zGh] (n : Nat) (self : List zV → zH d → zP d → Bool) (hself : zMet X_X2_readSum yX2_readSum (4 + 4 * n) self) (P : zP d) : zSim X_X2_readFactor (4 + 4 * n + 2) P 201 (bX2_readFactor_201 self P) := by
  unfold bX2_readFactor_201
  refine sm_aload_n (pc := 201) (n := 0) dX2_readFactor_201 rfl ?_
  refine sm_aload_n (pc := 202) (n := 0) dX2_readFactor_202 rfl ?_
  refine gf_X2_60 (pc := 203) rfl dX2_readFactor_203 ?_
  refine sm_cV (pc := 206) (ci := 2) (n := 2) (mc := 0) (ms := 0) rfl m_X2_refuse (cr_X2_78 (X := X_X2_readFactor) (fr := 4 + 4 * n + 2) (frc := 2) (pc := 206) (mc := 0) (ms := 0) rfl (by omega) dX2_readFactor_206) ?_
  exact sm_zreturn (pc := 209) dX2_readFactor_209 rfl
noncomputable def bX2_readFactor_195 {d : Nat} (self : List zV → zH d → zP d → Bool) (P : zP d) : zK d := (xald 0 (xild 1 (xcV 18 2 0 0 (f_X2_readInBrackets self) (xzret P))))
set_option maxRecDepth 100000 in
set_option maxHeartbeats 4000000 in
theorem sbX2_readFactor_195 {d : Nat} [zGh] (n : Nat) (self : List zV → zH d → zP d → Bool) (hself : zMet X_X2_readSum yX2_readSum (4 + 4 * n) self) (P : zP d) : zSim X_X2_readFactor (4 + 4 * n + 2) P 195 (bX2_readFactor_195 self P) := by
  unfold bX2_readFactor_195
  refine sm_aload_n (pc := 195) (n := 0) dX2_readFactor_195 rfl ?_
  refine sm_iload_n (pc := 196) (n := 1) dX2_readFactor_196 rfl ?_
  refine sm_cV (pc := 197) (ci := 2) (n := 2) (mc := 0) (ms := 0) rfl (m_X2_readInBrackets n self hself) (cr_X2_150 (X := X_X2_readFactor) (fr := 4 + 4 * n + 2) (frc := 4 + 4 * n + 1) (pc := 197) (mc := 0) (ms := 0) rfl (by omega) dX2_readFactor_197) ?_
  exact sm_zreturn (pc := 200) dX2_readFactor_200 rfl
noncomputable def bX2_readFactor_149 {d : Nat} (self : List zV → zH d → zP d → Bool) (P : zP d) : zK d := (xzret P)
set_option maxRecDepth 100000 in
set_option maxHeartbeats 4000000 in
theorem sbX2_readFactor_149 {d : Nat} [zGh] (n : Nat) (self : List zV → zH d → zP d → Bool) (hself : zMet X_X2_readSum yX2_readSum (4 + 4 * n) self) (P : zP d) : zSim X_X2_readFactor (4 + 4 * n + 2) P 149 (bX2_readFactor_149 self P) := by
  unfold bX2_readFactor_149
  exact sm_zreturn (pc := 149) dX2_readFactor_149 rfl
noncomputable def bX2_readFactor_148 {d : Nat} (self : List zV → zH d → zP d → Bool) (P : zP d) (j149 : zK d) : zK d := (xpI 0 j149)
set_option maxRecDepth 100000 in
set_option maxHeartbeats 4000000 in
theorem sbX2_readFactor_148 {d : Nat} [zGh] (n : Nat) (self : List zV → zH d → zP d → Bool) (hself : zMet X_X2_readSum yX2_readSum (4 + 4 * n) self) (P : zP d) (j149 : zK d) (hj149 : zSim X_X2_readFactor (4 + 4 * n + 2) P 149 j149) : zSim X_X2_readFactor (4 + 4 * n + 2) P 148 (bX2_readFactor_148 self P j149) := by
  unfold bX2_readFactor_148
  refine sm_iconst (pc := 148) dX2_readFactor_148 zc_i_0 ?_
  exact hj149
noncomputable def bX2_readFactor_118 {d : Nat} (self : List zV → zH d → zP d → Bool) (P : zP d) : zK d := (xald 0 (xdup (xgfI 18 14 (xpI 1 (xbin zadd (xpfI 18 14 (xald 0 (xcV 18 1 0 0 f_X2_readList (xjoin (bX2_readFactor_149 self P) (fun j149 => (xjoin (bX2_readFactor_148 self P j149) (fun j148 => (xif0 t0eq j148 (xald 0 (xild 1 (xild 2 (xcV 18 3 0 0 f_X2_takeCharacter (xif0 t0eq j148 (xpI 1 j149)))))))))))))))))))
set_option maxRecDepth 100000 in
set_option maxHeartbeats 4000000 in
theorem sbX2_readFactor_118 {d : Nat} [zGh] (n : Nat) (self : List zV → zH d → zP d → Bool) (hself : zMet X_X2_readSum yX2_readSum (4 + 4 * n) self) (P : zP d) : zSim X_X2_readFactor (4 + 4 * n + 2) P 118 (bX2_readFactor_118 self P) := by
  unfold bX2_readFactor_118
  refine sm_aload_n (pc := 118) (n := 0) dX2_readFactor_118 rfl ?_
  refine sm_dup (pc := 119) dX2_readFactor_119 ?_
  refine gf_X2_60 (pc := 120) rfl dX2_readFactor_120 ?_
  refine sm_iconst (pc := 123) dX2_readFactor_123 zc_i_1 ?_
  refine sm_iadd (pc := 124) dX2_readFactor_124 ?_
  refine pf_X2_60 (pc := 125) rfl dX2_readFactor_125 ?_
  refine sm_aload_n (pc := 128) (n := 0) dX2_readFactor_128 rfl ?_
  refine sm_cV (pc := 129) (ci := 2) (n := 1) (mc := 0) (ms := 0) rfl m_X2_readList (cr_X2_132 (X := X_X2_readFactor) (fr := 4 + 4 * n + 2) (frc := 3) (pc := 129) (mc := 0) (ms := 0) rfl (by omega) dX2_readFactor_129) ?_
  refine sm_join (pc := 132) (pc' := 149) (sbX2_readFactor_149 n self hself P) (fun j149 hj149 => ?_)
  refine sm_join (pc := 132) (pc' := 148) (sbX2_readFactor_148 n self hself P j149 hj149) (fun j148 hj148 => ?_)
  refine sm_if_eq (pc := 132) (tgt := 148) dX2_readFactor_132 (by decide) ?_ ?_
  · skip
    exact hj148
  · skip
    refine sm_aload_n (pc := 135) (n := 0) dX2_readFactor_135 rfl ?_
    refine sm_iload_n (pc := 136) (n := 1) dX2_readFactor_136 rfl ?_
    refine sm_iload_n (pc := 137) (n := 2) dX2_readFactor_137 rfl ?_
    refine sm_cV (pc := 138) (ci := 2) (n := 3) (mc := 0) (ms := 0) rfl m_X2_takeCharacter (cr_X2_136 (X := X_X2_readFactor) (fr := 4 + 4 * n + 2) (frc := 3) (pc := 138) (mc := 0) (ms := 0) rfl (by omega) dX2_readFactor_138) ?_
    refine sm_if_eq (pc := 141) (tgt := 148) dX2_readFactor_141 (by decide) ?_ ?_
    · skip
      exact hj148
    · skip
      refine sm_iconst (pc := 144) dX2_readFactor_144 zc_i_1 ?_
      refine sm_goto (pc := 145) (tgt := 149) dX2_readFactor_145 (by decide) ?_
      exact hj149
noncomputable def bX2_readFactor_149_2 {d : Nat} (self : List zV → zH d → zP d → Bool) (P : zP d) : zK d := (xzret P)
set_option maxRecDepth 100000 in
set_option maxHeartbeats 4000000 in
theorem sbX2_readFactor_149_2 {d : Nat} [zGh] (n : Nat) (self : List zV → zH d → zP d → Bool) (hself : zMet X_X2_readSum yX2_readSum (4 + 4 * n) self) (P : zP d) : zSim X_X2_readFactor (4 + 4 * n + 2) P 149 (bX2_readFactor_149_2 self P) := by
  unfold bX2_readFactor_149_2
  exact sm_zreturn (pc := 149) dX2_readFactor_149 rfl
noncomputable def bX2_readFactor_148_2 {d : Nat} (self : List zV → zH d → zP d → Bool) (P : zP d) (j149 : zK d) : zK d := (xpI 0 j149)
set_option maxRecDepth 100000 in
set_option maxHeartbeats 4000000 in
theorem sbX2_readFactor_148_2 {d : Nat} [zGh] (n : Nat) (self : List zV → zH d → zP d → Bool) (hself : zMet X_X2_readSum yX2_readSum (4 + 4 * n) self) (P : zP d) (j149 : zK d) (hj149 : zSim X_X2_readFactor (4 + 4 * n + 2) P 149 j149) : zSim X_X2_readFactor (4 + 4 * n + 2) P 148 (bX2_readFactor_148_2 self P j149) := by
  unfold bX2_readFactor_148_2
  refine sm_iconst (pc := 148) dX2_readFactor_148 zc_i_0 ?_
  exact hj149
noncomputable def bX2_readFactor_118_2 {d : Nat} (self : List zV → zH d → zP d → Bool) (P : zP d) : zK d := (xald 0 (xdup (xgfI 18 14 (xpI 1 (xbin zadd (xpfI 18 14 (xald 0 (xcV 18 1 0 0 f_X2_readList (xjoin (bX2_readFactor_149_2 self P) (fun j149 => (xjoin (bX2_readFactor_148_2 self P j149) (fun j148 => (xif0 t0eq j148 (xald 0 (xild 1 (xild 2 (xcV 18 3 0 0 f_X2_takeCharacter (xif0 t0eq j148 (xpI 1 j149)))))))))))))))))))
set_option maxRecDepth 100000 in
set_option maxHeartbeats 4000000 in
theorem sbX2_readFactor_118_2 {d : Nat} [zGh] (n : Nat) (self : List zV → zH d → zP d → Bool) (hself : zMet X_X2_readSum yX2_readSum (4 + 4 * n) self) (P : zP d) : zSim X_X2_readFactor (4 + 4 * n + 2) P 118 (bX2_readFactor_118_2 self P) := by
  unfold bX2_readFactor_118_2
  refine sm_aload_n (pc := 118) (n := 0) dX2_readFactor_118 rfl ?_
  refine sm_dup (pc := 119) dX2_readFactor_119 ?_
  refine gf_X2_60 (pc := 120) rfl dX2_readFactor_120 ?_
  refine sm_iconst (pc := 123) dX2_readFactor_123 zc_i_1 ?_
  refine sm_iadd (pc := 124) dX2_readFactor_124 ?_
  refine pf_X2_60 (pc := 125) rfl dX2_readFactor_125 ?_
  refine sm_aload_n (pc := 128) (n := 0) dX2_readFactor_128 rfl ?_
  refine sm_cV (pc := 129) (ci := 2) (n := 1) (mc := 0) (ms := 0) rfl m_X2_readList (cr_X2_132 (X := X_X2_readFactor) (fr := 4 + 4 * n + 2) (frc := 3) (pc := 129) (mc := 0) (ms := 0) rfl (by omega) dX2_readFactor_129) ?_
  refine sm_join (pc := 132) (pc' := 149) (sbX2_readFactor_149_2 n self hself P) (fun j149 hj149 => ?_)
  refine sm_join (pc := 132) (pc' := 148) (sbX2_readFactor_148_2 n self hself P j149 hj149) (fun j148 hj148 => ?_)
  refine sm_if_eq (pc := 132) (tgt := 148) dX2_readFactor_132 (by decide) ?_ ?_
  · skip
    exact hj148
  · skip
    refine sm_aload_n (pc := 135) (n := 0) dX2_readFactor_135 rfl ?_
    refine sm_iload_n (pc := 136) (n := 1) dX2_readFactor_136 rfl ?_
    refine sm_iload_n (pc := 137) (n := 2) dX2_readFactor_137 rfl ?_
    refine sm_cV (pc := 138) (ci := 2) (n := 3) (mc := 0) (ms := 0) rfl m_X2_takeCharacter (cr_X2_136 (X := X_X2_readFactor) (fr := 4 + 4 * n + 2) (frc := 3) (pc := 138) (mc := 0) (ms := 0) rfl (by omega) dX2_readFactor_138) ?_
    refine sm_if_eq (pc := 141) (tgt := 148) dX2_readFactor_141 (by decide) ?_ ?_
    · skip
      exact hj148
    · skip
      refine sm_iconst (pc := 144) dX2_readFactor_144 zc_i_1 ?_
      refine sm_goto (pc := 145) (tgt := 149) dX2_readFactor_145 (by decide) ?_
      exact hj149
noncomputable def bX2_readFactor_149_3 {d : Nat} (self : List zV → zH d → zP d → Bool) (P : zP d) : zK d := (xzret P)
set_option maxRecDepth 100000 in
set_option maxHeartbeats 4000000 in
theorem sbX2_readFactor_149_3 {d : Nat} [zGh] (n : Nat) (self : List zV → zH d → zP d → Bool) (hself : zMet X_X2_readSum yX2_readSum (4 + 4 * n) self) (P : zP d) : zSim X_X2_readFactor (4 + 4 * n + 2) P 149 (bX2_readFactor_149_3 self P) := by
  unfold bX2_readFactor_149_3
  exact sm_zreturn (pc := 149) dX2_readFactor_149 rfl
noncomputable def bX2_readFactor_148_3 {d : Nat} (self : List zV → zH d → zP d → Bool) (P : zP d) (j149 : zK d) : zK d := (xpI 0 j149)
set_option maxRecDepth 100000 in
set_option maxHeartbeats 4000000 in
theorem sbX2_readFactor_148_3 {d : Nat} [zGh] (n : Nat) (self : List zV → zH d → zP d → Bool) (hself : zMet X_X2_readSum yX2_readSum (4 + 4 * n) self) (P : zP d) (j149 : zK d) (hj149 : zSim X_X2_readFactor (4 + 4 * n + 2) P 149 j149) : zSim X_X2_readFactor (4 + 4 * n + 2) P 148 (bX2_readFactor_148_3 self P j149) := by
  unfold bX2_readFactor_148_3
  refine sm_iconst (pc := 148) dX2_readFactor_148 zc_i_0 ?_
  exact hj149
noncomputable def bX2_readFactor_118_3 {d : Nat} (self : List zV → zH d → zP d → Bool) (P : zP d) : zK d := (xald 0 (xdup (xgfI 18 14 (xpI 1 (xbin zadd (xpfI 18 14 (xald 0 (xcV 18 1 0 0 f_X2_readList (xjoin (bX2_readFactor_149_3 self P) (fun j149 => (xjoin (bX2_readFactor_148_3 self P j149) (fun j148 => (xif0 t0eq j148 (xald 0 (xild 1 (xild 2 (xcV 18 3 0 0 f_X2_takeCharacter (xif0 t0eq j148 (xpI 1 j149)))))))))))))))))))
set_option maxRecDepth 100000 in
set_option maxHeartbeats 4000000 in
theorem sbX2_readFactor_118_3 {d : Nat} [zGh] (n : Nat) (self : List zV → zH d → zP d → Bool) (hself : zMet X_X2_readSum yX2_readSum (4 + 4 * n) self) (P : zP d) : zSim X_X2_readFactor (4 + 4 * n + 2) P 118 (bX2_readFactor_118_3 self P) := by
  unfold bX2_readFactor_118_3
  refine sm_aload_n (pc := 118) (n := 0) dX2_readFactor_118 rfl ?_
  refine sm_dup (pc := 119) dX2_readFactor_119 ?_
  refine gf_X2_60 (pc := 120) rfl dX2_readFactor_120 ?_
  refine sm_iconst (pc := 123) dX2_readFactor_123 zc_i_1 ?_
  refine sm_iadd (pc := 124) dX2_readFactor_124 ?_
  refine pf_X2_60 (pc := 125) rfl dX2_readFactor_125 ?_
  refine sm_aload_n (pc := 128) (n := 0) dX2_readFactor_128 rfl ?_
  refine sm_cV (pc := 129) (ci := 2) (n := 1) (mc := 0) (ms := 0) rfl m_X2_readList (cr_X2_132 (X := X_X2_readFactor) (fr := 4 + 4 * n + 2) (frc := 3) (pc := 129) (mc := 0) (ms := 0) rfl (by omega) dX2_readFactor_129) ?_
  refine sm_join (pc := 132) (pc' := 149) (sbX2_readFactor_149_3 n self hself P) (fun j149 hj149 => ?_)
  refine sm_join (pc := 132) (pc' := 148) (sbX2_readFactor_148_3 n self hself P j149 hj149) (fun j148 hj148 => ?_)
  refine sm_if_eq (pc := 132) (tgt := 148) dX2_readFactor_132 (by decide) ?_ ?_
  · skip
    exact hj148
  · skip
    refine sm_aload_n (pc := 135) (n := 0) dX2_readFactor_135 rfl ?_
    refine sm_iload_n (pc := 136) (n := 1) dX2_readFactor_136 rfl ?_
    refine sm_iload_n (pc := 137) (n := 2) dX2_readFactor_137 rfl ?_
    refine sm_cV (pc := 138) (ci := 2) (n := 3) (mc := 0) (ms := 0) rfl m_X2_takeCharacter (cr_X2_136 (X := X_X2_readFactor) (fr := 4 + 4 * n + 2) (frc := 3) (pc := 138) (mc := 0) (ms := 0) rfl (by omega) dX2_readFactor_138) ?_
    refine sm_if_eq (pc := 141) (tgt := 148) dX2_readFactor_141 (by decide) ?_ ?_
    · skip
      exact hj148
    · skip
      refine sm_iconst (pc := 144) dX2_readFactor_144 zc_i_1 ?_
      refine sm_goto (pc := 145) (tgt := 149) dX2_readFactor_145 (by decide) ?_
      exact hj149
noncomputable def bX2_readFactor_150 {d : Nat} (self : List zV → zH d → zP d → Bool) (P : zP d) : zK d := (xald 0 (xdup (xgfI 18 14 (xpI 1 (xbin zadd (xpfI 18 14 (xald 0 (xald 0 (xgfR 18 12 (xgfR 23 7 (xald 0 (xgfR 18 3 (xild 1 (xaal (xcV 18 3 0 0 f_X2_copy (xpI 1 (xzret P)))))))))))))))))
set_option maxRecDepth 100000 in
set_option maxHeartbeats 4000000 in
theorem sbX2_readFactor_150 {d : Nat} [zGh] (n : Nat) (self : List zV → zH d → zP d → Bool) (hself : zMet X_X2_readSum yX2_readSum (4 + 4 * n) self) (P : zP d) : zSim X_X2_readFactor (4 + 4 * n + 2) P 150 (bX2_readFactor_150 self P) := by
  unfold bX2_readFactor_150
  refine sm_aload_n (pc := 150) (n := 0) dX2_readFactor_150 rfl ?_
  refine sm_dup (pc := 151) dX2_readFactor_151 ?_
  refine gf_X2_60 (pc := 152) rfl dX2_readFactor_152 ?_
  refine sm_iconst (pc := 155) dX2_readFactor_155 zc_i_1 ?_
  refine sm_iadd (pc := 156) dX2_readFactor_156 ?_
  refine pf_X2_60 (pc := 157) rfl dX2_readFactor_157 ?_
  refine sm_aload_n (pc := 160) (n := 0) dX2_readFactor_160 rfl ?_
  refine sm_aload_n (pc := 161) (n := 0) dX2_readFactor_161 rfl ?_
  refine gf_X2_49 (pc := 162) rfl dX2_readFactor_162 ?_
  refine gf_X2_140 (pc := 165) rfl dX2_readFactor_165 ?_
  refine sm_aload_n (pc := 168) (n := 0) dX2_readFactor_168 rfl ?_
  refine gf_X2_26 (pc := 169) rfl dX2_readFactor_169 ?_
  refine sm_iload_n (pc := 172) (n := 1) dX2_readFactor_172 rfl ?_
  refine sm_aaload (pc := 173) dX2_readFactor_173 ?_
  refine sm_cV (pc := 174) (ci := 2) (n := 3) (mc := 0) (ms := 0) rfl m_X2_copy (cr_X2_143 (X := X_X2_readFactor) (fr := 4 + 4 * n + 2) (frc := 1) (pc := 174) (mc := 0) (ms := 0) rfl (by omega) dX2_readFactor_174) ?_
  refine sm_iconst (pc := 177) dX2_readFactor_177 zc_i_1 ?_
  exact sm_zreturn (pc := 178) dX2_readFactor_178 rfl
noncomputable def bX2_readFactor_179 {d : Nat} (self : List zV → zH d → zP d → Bool) (P : zP d) : zK d := (xald 0 (xdup (xgfI 18 14 (xpI 1 (xbin zadd (xpfI 18 14 (xald 0 (xild 1 (xcV 18 2 0 0 f_X2_readSlot (xzret P))))))))))
set_option maxRecDepth 100000 in
set_option maxHeartbeats 4000000 in
theorem sbX2_readFactor_179 {d : Nat} [zGh] (n : Nat) (self : List zV → zH d → zP d → Bool) (hself : zMet X_X2_readSum yX2_readSum (4 + 4 * n) self) (P : zP d) : zSim X_X2_readFactor (4 + 4 * n + 2) P 179 (bX2_readFactor_179 self P) := by
  unfold bX2_readFactor_179
  refine sm_aload_n (pc := 179) (n := 0) dX2_readFactor_179 rfl ?_
  refine sm_dup (pc := 180) dX2_readFactor_180 ?_
  refine gf_X2_60 (pc := 181) rfl dX2_readFactor_181 ?_
  refine sm_iconst (pc := 184) dX2_readFactor_184 zc_i_1 ?_
  refine sm_iadd (pc := 185) dX2_readFactor_185 ?_
  refine pf_X2_60 (pc := 186) rfl dX2_readFactor_186 ?_
  refine sm_aload_n (pc := 189) (n := 0) dX2_readFactor_189 rfl ?_
  refine sm_iload_n (pc := 190) (n := 1) dX2_readFactor_190 rfl ?_
  refine sm_cV (pc := 191) (ci := 2) (n := 2) (mc := 0) (ms := 0) rfl m_X2_readSlot (cr_X2_147 (X := X_X2_readFactor) (fr := 4 + 4 * n + 2) (frc := 3) (pc := 191) (mc := 0) (ms := 0) rfl (by omega) dX2_readFactor_191) ?_
  exact sm_zreturn (pc := 194) dX2_readFactor_194 rfl
noncomputable def bX2_readFactor_117 {d : Nat} (self : List zV → zH d → zP d → Bool) (P : zP d) : zK d := (xzret P)
set_option maxRecDepth 100000 in
set_option maxHeartbeats 4000000 in
theorem sbX2_readFactor_117 {d : Nat} [zGh] (n : Nat) (self : List zV → zH d → zP d → Bool) (hself : zMet X_X2_readSum yX2_readSum (4 + 4 * n) self) (P : zP d) : zSim X_X2_readFactor (4 + 4 * n + 2) P 117 (bX2_readFactor_117 self P) := by
  unfold bX2_readFactor_117
  exact sm_zreturn (pc := 117) dX2_readFactor_117 rfl
noncomputable def bX2_readFactor_116 {d : Nat} (self : List zV → zH d → zP d → Bool) (P : zP d) (j117 : zK d) : zK d := (xpI 0 j117)
set_option maxRecDepth 100000 in
set_option maxHeartbeats 4000000 in
theorem sbX2_readFactor_116 {d : Nat} [zGh] (n : Nat) (self : List zV → zH d → zP d → Bool) (hself : zMet X_X2_readSum yX2_readSum (4 + 4 * n) self) (P : zP d) (j117 : zK d) (hj117 : zSim X_X2_readFactor (4 + 4 * n + 2) P 117 j117) : zSim X_X2_readFactor (4 + 4 * n + 2) P 116 (bX2_readFactor_116 self P j117) := by
  unfold bX2_readFactor_116
  refine sm_iconst (pc := 116) dX2_readFactor_116 zc_i_0 ?_
  exact hj117
noncomputable def bX2_readFactor_96 {d : Nat} (self : List zV → zH d → zP d → Bool) (P : zP d) : zK d := (xald 0 (xcV 18 1 0 0 f_X2_readList (xjoin (bX2_readFactor_117 self P) (fun j117 => (xjoin (bX2_readFactor_116 self P j117) (fun j116 => (xif0 t0eq j116 (xald 0 (xild 1 (xild 2 (xcV 18 3 0 0 f_X2_takeCharacter (xif0 t0eq j116 (xpI 1 j117)))))))))))))
set_option maxRecDepth 100000 in
set_option maxHeartbeats 4000000 in
theorem sbX2_readFactor_96 {d : Nat} [zGh] (n : Nat) (self : List zV → zH d → zP d → Bool) (hself : zMet X_X2_readSum yX2_readSum (4 + 4 * n) self) (P : zP d) : zSim X_X2_readFactor (4 + 4 * n + 2) P 96 (bX2_readFactor_96 self P) := by
  unfold bX2_readFactor_96
  refine sm_aload_n (pc := 96) (n := 0) dX2_readFactor_96 rfl ?_
  refine sm_cV (pc := 97) (ci := 2) (n := 1) (mc := 0) (ms := 0) rfl m_X2_readList (cr_X2_132 (X := X_X2_readFactor) (fr := 4 + 4 * n + 2) (frc := 3) (pc := 97) (mc := 0) (ms := 0) rfl (by omega) dX2_readFactor_97) ?_
  refine sm_join (pc := 100) (pc' := 117) (sbX2_readFactor_117 n self hself P) (fun j117 hj117 => ?_)
  refine sm_join (pc := 100) (pc' := 116) (sbX2_readFactor_116 n self hself P j117 hj117) (fun j116 hj116 => ?_)
  refine sm_if_eq (pc := 100) (tgt := 116) dX2_readFactor_100 (by decide) ?_ ?_
  · skip
    exact hj116
  · skip
    refine sm_aload_n (pc := 103) (n := 0) dX2_readFactor_103 rfl ?_
    refine sm_iload_n (pc := 104) (n := 1) dX2_readFactor_104 rfl ?_
    refine sm_iload_n (pc := 105) (n := 2) dX2_readFactor_105 rfl ?_
    refine sm_cV (pc := 106) (ci := 2) (n := 3) (mc := 0) (ms := 0) rfl m_X2_takeCharacter (cr_X2_136 (X := X_X2_readFactor) (fr := 4 + 4 * n + 2) (frc := 3) (pc := 106) (mc := 0) (ms := 0) rfl (by omega) dX2_readFactor_106) ?_
    refine sm_if_eq (pc := 109) (tgt := 116) dX2_readFactor_109 (by decide) ?_ ?_
    · skip
      exact hj116
    · skip
      refine sm_iconst (pc := 112) dX2_readFactor_112 zc_i_1 ?_
      refine sm_goto (pc := 113) (tgt := 117) dX2_readFactor_113 (by decide) ?_
      exact hj117
noncomputable def b_X2_readFactor {d : Nat} (self : List zV → zH d → zP d → Bool) (P : zP d) : zK d := (xald 0 (xcV 18 1 0 0 f_X2_next (xist 2 (xald 0 (xgfR 18 6 (xild 1 (xald 0 (xgfI 18 14 (xast1 0 (fun v => v) (xild 2 (xcS 1 0 0 f_X2_isDigit (xif0 t0eq (xild 2 (xlsw [(40, (bX2_readFactor_195 self P)), (68, (bX2_readFactor_118 self P)), (77, (bX2_readFactor_118_2 self P)), (80, (bX2_readFactor_118_3 self P)), (83, (bX2_readFactor_150 self P)), (88, (bX2_readFactor_179 self P)), (91, (bX2_readFactor_96 self P))] (bX2_readFactor_201 self P))) (xald 0 (xild 1 (xcV 18 2 0 0 f_X2_readConstant (xzret P))))))))))))))))
set_option maxRecDepth 100000 in
set_option maxHeartbeats 4000000 in
theorem s_X2_readFactor {d : Nat} [zGh] (n : Nat) (self : List zV → zH d → zP d → Bool) (hself : zMet X_X2_readSum yX2_readSum (4 + 4 * n) self) (P : zP d) : zSim X_X2_readFactor (4 + 4 * n + 2) P 0 (b_X2_readFactor self P) := by
  unfold b_X2_readFactor
  refine sm_aload_n (pc := 0) (n := 0) dX2_readFactor_0 rfl ?_
  refine sm_cV (pc := 1) (ci := 2) (n := 1) (mc := 0) (ms := 0) rfl m_X2_next (cr_X2_74 (X := X_X2_readFactor) (fr := 4 + 4 * n + 2) (frc := 1) (pc := 1) (mc := 0) (ms := 0) rfl (by omega) dX2_readFactor_1) ?_
  refine sm_istore_n (pc := 4) (n := 2) dX2_readFactor_4 rfl ?_
  refine sm_aload_n (pc := 5) (n := 0) dX2_readFactor_5 rfl ?_
  refine gf_X2_36 (pc := 6) rfl dX2_readFactor_6 ?_
  refine sm_iload_n (pc := 9) (n := 1) dX2_readFactor_9 rfl ?_
  refine sm_aload_n (pc := 10) (n := 0) dX2_readFactor_10 rfl ?_
  refine gf_X2_60 (pc := 11) rfl dX2_readFactor_11 ?_
  refine sm_iastore (pc := 14) dX2_readFactor_14 ?_
  refine sm_iload_n (pc := 15) (n := 2) dX2_readFactor_15 rfl ?_
  refine sm_cS (pc := 16) (n := 1) (mc := 0) (ms := 0) m_X2_isDigit (cr_X2_126 (X := X_X2_readFactor) (fr := 4 + 4 * n + 2) (frc := 1) (pc := 16) (mc := 0) (ms := 0) rfl (by omega) dX2_readFactor_16) ?_
  refine sm_if_eq (pc := 19) (tgt := 28) dX2_readFactor_19 (by decide) ?_ ?_
  · skip
    refine sm_iload_n (pc := 28) (n := 2) dX2_readFactor_28 rfl ?_
    refine sm_lsw (pc := 29) (tdf := 201) [(40, 195), (68, 118), (77, 118), (80, 118), (83, 150), (88, 179), (91, 96)] dX2_readFactor_29 (by decide +kernel) (by decide +kernel) rfl (by decide) (sbX2_readFactor_201 n self hself P) (fun i n t k ht hk => ?_)
    match i, ht, hk with
    | 0, ht, hk => cases ht; cases hk; exact sbX2_readFactor_195 n self hself P
    | 1, ht, hk => cases ht; cases hk; exact sbX2_readFactor_118 n self hself P
    | 2, ht, hk => cases ht; cases hk; exact sbX2_readFactor_118_2 n self hself P
    | 3, ht, hk => cases ht; cases hk; exact sbX2_readFactor_118_3 n self hself P
    | 4, ht, hk => cases ht; cases hk; exact sbX2_readFactor_150 n self hself P
    | 5, ht, hk => cases ht; cases hk; exact sbX2_readFactor_179 n self hself P
    | 6, ht, hk => cases ht; cases hk; exact sbX2_readFactor_96 n self hself P
    | i + 7, ht, hk => cases ht
  · skip
    refine sm_aload_n (pc := 22) (n := 0) dX2_readFactor_22 rfl ?_
    refine sm_iload_n (pc := 23) (n := 1) dX2_readFactor_23 rfl ?_
    refine sm_cV (pc := 24) (ci := 2) (n := 2) (mc := 0) (ms := 0) rfl m_X2_readConstant (cr_X2_129 (X := X_X2_readFactor) (fr := 4 + 4 * n + 2) (frc := 3) (pc := 24) (mc := 0) (ms := 0) rfl (by omega) dX2_readFactor_24) ?_
    exact sm_zreturn (pc := 27) dX2_readFactor_27 rfl
noncomputable def f_X2_readFactor {d : Nat} (self : List zV → zH d → zP d → Bool) : List zV → zH d → zP d → Bool := zfn 3 (b_X2_readFactor self)
theorem m_X2_readFactor {d : Nat} (n : Nat) (self : List zV → zH d → zP d → Bool) (hself : zMet X_X2_readSum yX2_readSum (4 + 4 * n) self) : zMet (d := d) X_X2_readFactor yX2_readFactor (4 + 4 * n + 2) (f_X2_readFactor self) := zmet_mk (X := X_X2_readFactor) (by decide) rfl rfl (s_X2_readFactor n self hself)

abbrev X_X2_readTerm : zM := (RX2, cX2_readTerm, 4, (some .boolean), "readTerm")
noncomputable def cX2_readTerm_100 {d : Nat} (self : List zV → zH d → zP d → Bool) (P : zP d) (r51 : zK d) : zK d := (xaal (xald 0 (xgfR 18 2 (xild 1 (xaal (xcV 18 3 0 0 f_X2_multiply (xif0 t0eq (xald 0 (xpI 6 (xild 3 (xild 1 (xpI 1 (xcV 18 5 0 0 f_X2_fail (xzret P))))))) (xinc 2 1 r51))))))))
set_option maxRecDepth 100000 in
set_option maxHeartbeats 4000000 in
theorem scX2_readTerm_100 {d : Nat} [zGh] (n : Nat) (self : List zV → zH d → zP d → Bool) (hself : zMet X_X2_readSum yX2_readSum (4 + 4 * n) self) (P : zP d) (r51 : zK d) (hr51 : zSim X_X2_readTerm (4 + 4 * n + 3) P 51 r51) : zSim X_X2_readTerm (4 + 4 * n + 3) P 100 (cX2_readTerm_100 self P r51) := by
  unfold cX2_readTerm_100
  refine sm_aaload (pc := 100) dX2_readTerm_100 ?_
  refine sm_aload_n (pc := 101) (n := 0) dX2_readTerm_101 rfl ?_
  refine gf_X2_23 (pc := 102) rfl dX2_readTerm_102 ?_
  refine sm_iload_n (pc := 105) (n := 1) dX2_readTerm_105 rfl ?_
  refine sm_aaload (pc := 106) dX2_readTerm_106 ?_
  refine sm_cV (pc := 107) (ci := 2) (n := 3) (mc := 0) (ms := 0) rfl m_X2_multiply (cr_X2_122 (X := X_X2_readTerm) (fr := 4 + 4 * n + 3) (frc := 1) (pc := 107) (mc := 0) (ms := 0) rfl (by omega) dX2_readTerm_107) ?_
  refine sm_if_ne (pc := 110) (tgt := 123) dX2_readTerm_110 (by decide) ?_ ?_
  · skip
    refine sm_iinc (pc := 123) (n := 2) dX2_readTerm_123 zc_i_1 ?_
    refine sm_goto (pc := 126) (tgt := 51) dX2_readTerm_126 (by decide) ?_
    exact hr51
  · skip
    refine sm_aload_n (pc := 113) (n := 0) dX2_readTerm_113 rfl ?_
    refine sm_bipush (pc := 114) dX2_readTerm_114 zc_b_6 ?_
    refine sm_iload_n (pc := 116) (n := 3) dX2_readTerm_116 rfl ?_
    refine sm_iload_n (pc := 117) (n := 1) dX2_readTerm_117 rfl ?_
    refine sm_iconst (pc := 118) dX2_readTerm_118 zc_i_1 ?_
    refine sm_cV (pc := 119) (ci := 2) (n := 5) (mc := 0) (ms := 0) rfl m_X2_fail (cr_X2_115 (X := X_X2_readTerm) (fr := 4 + 4 * n + 3) (frc := 2) (pc := 119) (mc := 0) (ms := 0) rfl (by omega) dX2_readTerm_119) ?_
    exact sm_zreturn (pc := 122) dX2_readTerm_122 rfl
noncomputable def lX2_readTerm_51 {d : Nat} (self : List zV → zH d → zP d → Bool) (P : zP d) (r51 : zK d) : zK d := (xild 2 (xpI 200 (xcmp tge (xpI 1 (xzret P)) (xald 0 (xcV 18 1 0 0 f_X2_next (xpI 42 (xcmp Nat.beq (xald 0 (xgfI 18 14 (xist 3 (xald 0 (xdup (xgfI 18 14 (xpI 1 (xbin zadd (xpfI 18 14 (xald 0 (xild 1 (xcV 18 2 0 0 (f_X2_readFactor self) (xif0 t0eq (xpI 0 (xzret P)) (xald 0 (xald 0 (xgfR 18 3 (xild 1 (cX2_readTerm_100 self P r51)))))))))))))))))) (xpI 1 (xzret P)))))))))
set_option maxRecDepth 100000 in
set_option maxHeartbeats 4000000 in
theorem slX2_readTerm_51 {d : Nat} [zGh] (n : Nat) (self : List zV → zH d → zP d → Bool) (hself : zMet X_X2_readSum yX2_readSum (4 + 4 * n) self) (P : zP d) (r51 : zK d) (hr51 : zSim X_X2_readTerm (4 + 4 * n + 3) P 51 r51) : zSim X_X2_readTerm (4 + 4 * n + 3) P 51 (lX2_readTerm_51 self P r51) := by
  unfold lX2_readTerm_51
  refine sm_iload_n (pc := 51) (n := 2) dX2_readTerm_51 rfl ?_
  refine sm_sipush (pc := 52) dX2_readTerm_52 zc_s_200 ?_
  refine sm_icmp_ge (pc := 55) (tgt := 129) dX2_readTerm_55 (by decide) ?_ ?_
  · skip
    refine sm_iconst (pc := 129) dX2_readTerm_129 zc_i_1 ?_
    exact sm_zreturn (pc := 130) dX2_readTerm_130 rfl
  · skip
    refine sm_aload_n (pc := 58) (n := 0) dX2_readTerm_58 rfl ?_
    refine sm_cV (pc := 59) (ci := 2) (n := 1) (mc := 0) (ms := 0) rfl m_X2_next (cr_X2_74 (X := X_X2_readTerm) (fr := 4 + 4 * n + 3) (frc := 1) (pc := 59) (mc := 0) (ms := 0) rfl (by omega) dX2_readTerm_59) ?_
    refine sm_bipush (pc := 62) dX2_readTerm_62 zc_b_42 ?_
    refine sm_icmp_eq (pc := 64) (tgt := 69) dX2_readTerm_64 (by decide) ?_ ?_
    · skip
      refine sm_aload_n (pc := 69) (n := 0) dX2_readTerm_69 rfl ?_
      refine gf_X2_60 (pc := 70) rfl dX2_readTerm_70 ?_
      refine sm_istore_n (pc := 73) (n := 3) dX2_readTerm_73 rfl ?_
      refine sm_aload_n (pc := 74) (n := 0) dX2_readTerm_74 rfl ?_
      refine sm_dup (pc := 75) dX2_readTerm_75 ?_
      refine gf_X2_60 (pc := 76) rfl dX2_readTerm_76 ?_
      refine sm_iconst (pc := 79) dX2_readTerm_79 zc_i_1 ?_
      refine sm_iadd (pc := 80) dX2_readTerm_80 ?_
      refine pf_X2_60 (pc := 81) rfl dX2_readTerm_81 ?_
      refine sm_aload_n (pc := 84) (n := 0) dX2_readTerm_84 rfl ?_
      refine sm_iload_n (pc := 85) (n := 1) dX2_readTerm_85 rfl ?_
      refine sm_cV (pc := 86) (ci := 2) (n := 2) (mc := 0) (ms := 0) rfl (m_X2_readFactor n self hself) (cr_X2_119 (X := X_X2_readTerm) (fr := 4 + 4 * n + 3) (frc := 4 + 4 * n + 2) (pc := 86) (mc := 0) (ms := 0) rfl (by omega) dX2_readTerm_86) ?_
      refine sm_if_ne (pc := 89) (tgt := 94) dX2_readTerm_89 (by decide) ?_ ?_
      · skip
        refine sm_aload_n (pc := 94) (n := 0) dX2_readTerm_94 rfl ?_
        refine sm_aload_n (pc := 95) (n := 0) dX2_readTerm_95 rfl ?_
        refine gf_X2_26 (pc := 96) rfl dX2_readTerm_96 ?_
        refine sm_iload_n (pc := 99) (n := 1) dX2_readTerm_99 rfl ?_
        exact scX2_readTerm_100 n self hself P r51 hr51
      · skip
        refine sm_iconst (pc := 92) dX2_readTerm_92 zc_i_0 ?_
        exact sm_zreturn (pc := 93) dX2_readTerm_93 rfl
    · skip
      refine sm_iconst (pc := 67) dX2_readTerm_67 zc_i_1 ?_
      exact sm_zreturn (pc := 68) dX2_readTerm_68 rfl
noncomputable def cX2_readTerm_40 {d : Nat} (self : List zV → zH d → zP d → Bool) (P : zP d) : zK d := (xgfR 18 12 (xgfI 23 1 (xcpy 2 72 (xpI 0 (xist 2 (xloop (fun r51 => (lX2_readTerm_51 self P r51)) 100000))))))
set_option maxRecDepth 100000 in
set_option maxHeartbeats 4000000 in
theorem scX2_readTerm_40 {d : Nat} [zGh] (n : Nat) (self : List zV → zH d → zP d → Bool) (hself : zMet X_X2_readSum yX2_readSum (4 + 4 * n) self) (P : zP d) : zSim X_X2_readTerm (4 + 4 * n + 3) P 40 (cX2_readTerm_40 self P) := by
  unfold cX2_readTerm_40
  refine gf_X2_49 (pc := 40) rfl dX2_readTerm_40 ?_
  refine gf_X2_100 (pc := 43) rfl dX2_readTerm_43 ?_
  refine sm_copyJ (pc := 46) wd_753 wd_80 wd_79 wd_7 (by omega) dX2_readTerm_46 ?_
  refine sm_iconst (pc := 49) dX2_readTerm_49 zc_i_0 ?_
  refine sm_istore_n (pc := 50) (n := 2) dX2_readTerm_50 rfl ?_
  exact sm_loop (fun r51 hr51 => slX2_readTerm_51 n self hself P r51 hr51) _
noncomputable def b_X2_readTerm {d : Nat} (self : List zV → zH d → zP d → Bool) (P : zP d) : zK d := (xald 0 (xcV 18 1 0 0 f_X2_next (xpop (xald 0 (xgfR 18 5 (xild 1 (xald 0 (xgfI 18 14 (xast1 0 (fun v => v) (xald 0 (xild 1 (xcV 18 2 0 0 (f_X2_readFactor self) (xif0 t0eq (xpI 0 (xzret P)) (xald 0 (xgfR 18 3 (xild 1 (xaal (xpI 0 (xald 0 (xgfR 18 2 (xild 1 (xaal (xpI 0 (xald 0 (cX2_readTerm_40 self P)))))))))))))))))))))))))
set_option maxRecDepth 100000 in
set_option maxHeartbeats 4000000 in
theorem s_X2_readTerm {d : Nat} [zGh] (n : Nat) (self : List zV → zH d → zP d → Bool) (hself : zMet X_X2_readSum yX2_readSum (4 + 4 * n) self) (P : zP d) : zSim X_X2_readTerm (4 + 4 * n + 3) P 0 (b_X2_readTerm self P) := by
  unfold b_X2_readTerm
  refine sm_aload_n (pc := 0) (n := 0) dX2_readTerm_0 rfl ?_
  refine sm_cV (pc := 1) (ci := 2) (n := 1) (mc := 0) (ms := 0) rfl m_X2_next (cr_X2_74 (X := X_X2_readTerm) (fr := 4 + 4 * n + 3) (frc := 1) (pc := 1) (mc := 0) (ms := 0) rfl (by omega) dX2_readTerm_1) ?_
  refine sm_pop (pc := 4) dX2_readTerm_4 ?_
  refine sm_aload_n (pc := 5) (n := 0) dX2_readTerm_5 rfl ?_
  refine gf_X2_33 (pc := 6) rfl dX2_readTerm_6 ?_
  refine sm_iload_n (pc := 9) (n := 1) dX2_readTerm_9 rfl ?_
  refine sm_aload_n (pc := 10) (n := 0) dX2_readTerm_10 rfl ?_
  refine gf_X2_60 (pc := 11) rfl dX2_readTerm_11 ?_
  refine sm_iastore (pc := 14) dX2_readTerm_14 ?_
  refine sm_aload_n (pc := 15) (n := 0) dX2_readTerm_15 rfl ?_
  refine sm_iload_n (pc := 16) (n := 1) dX2_readTerm_16 rfl ?_
  refine sm_cV (pc := 17) (ci := 2) (n := 2) (mc := 0) (ms := 0) rfl (m_X2_readFactor n self hself) (cr_X2_119 (X := X_X2_readTerm) (fr := 4 + 4 * n + 3) (frc := 4 + 4 * n + 2) (pc := 17) (mc := 0) (ms := 0) rfl (by omega) dX2_readTerm_17) ?_
  refine sm_if_ne (pc := 20) (tgt := 25) dX2_readTerm_20 (by decide) ?_ ?_
  · skip
    refine sm_aload_n (pc := 25) (n := 0) dX2_readTerm_25 rfl ?_
    refine gf_X2_26 (pc := 26) rfl dX2_readTerm_26 ?_
    refine sm_iload_n (pc := 29) (n := 1) dX2_readTerm_29 rfl ?_
    refine sm_aaload (pc := 30) dX2_readTerm_30 ?_
    refine sm_iconst (pc := 31) dX2_readTerm_31 zc_i_0 ?_
    refine sm_aload_n (pc := 32) (n := 0) dX2_readTerm_32 rfl ?_
    refine gf_X2_23 (pc := 33) rfl dX2_readTerm_33 ?_
    refine sm_iload_n (pc := 36) (n := 1) dX2_readTerm_36 rfl ?_
    refine sm_aaload (pc := 37) dX2_readTerm_37 ?_
    refine sm_iconst (pc := 38) dX2_readTerm_38 zc_i_0 ?_
    refine sm_aload_n (pc := 39) (n := 0) dX2_readTerm_39 rfl ?_
    exact scX2_readTerm_40 n self hself P
  · skip
    refine sm_iconst (pc := 23) dX2_readTerm_23 zc_i_0 ?_
    exact sm_zreturn (pc := 24) dX2_readTerm_24 rfl
noncomputable def f_X2_readTerm {d : Nat} (self : List zV → zH d → zP d → Bool) : List zV → zH d → zP d → Bool := zfn 4 (b_X2_readTerm self)
theorem m_X2_readTerm {d : Nat} (n : Nat) (self : List zV → zH d → zP d → Bool) (hself : zMet X_X2_readSum yX2_readSum (4 + 4 * n) self) : zMet (d := d) X_X2_readTerm yX2_readTerm (4 + 4 * n + 3) (f_X2_readTerm self) := zmet_mk (X := X_X2_readTerm) (by decide) rfl rfl (s_X2_readTerm n self hself)

noncomputable def bX2_readSum_121 {d : Nat} (self : List zV → zH d → zP d → Bool) (P : zP d) (r51 : zK d) : zK d := (xald 0 (xgfR 18 1 (xild 1 (xaal (xcV 18 4 0 0 f_X2_add (xif0 t0eq (xald 0 (xpI 6 (xild 4 (xild 1 (xpI 2 (xcV 18 5 0 0 f_X2_fail (xzret P))))))) (xinc 2 1 r51)))))))
set_option maxRecDepth 100000 in
set_option maxHeartbeats 4000000 in
theorem sbX2_readSum_121 {d : Nat} [zGh] (n : Nat) (self : List zV → zH d → zP d → Bool) (hself : zMet X_X2_readSum yX2_readSum (4 + 4 * n) self) (P : zP d) (r51 : zK d) (hr51 : zSim X_X2_readSum (4 + 4 * n + 4) P 51 r51) : zSim X_X2_readSum (4 + 4 * n + 4) P 121 (bX2_readSum_121 self P r51) := by
  unfold bX2_readSum_121
  refine sm_aload_n (pc := 121) (n := 0) dX2_readSum_121 rfl ?_
  refine gf_X2_20 (pc := 122) rfl dX2_readSum_122 ?_
  refine sm_iload_n (pc := 125) (n := 1) dX2_readSum_125 rfl ?_
  refine sm_aaload (pc := 126) dX2_readSum_126 ?_
  refine sm_cV (pc := 127) (ci := 2) (n := 4) (mc := 0) (ms := 0) rfl m_X2_add (cr_X2_111 (X := X_X2_readSum) (fr := 4 + 4 * n + 4) (frc := 1) (pc := 127) (mc := 0) (ms := 0) rfl (by omega) dX2_readSum_127) ?_
  refine sm_if_ne (pc := 130) (tgt := 144) dX2_readSum_130 (by decide) ?_ ?_
  · skip
    refine sm_iinc (pc := 144) (n := 2) dX2_readSum_144 zc_i_1 ?_
    refine sm_goto (pc := 147) (tgt := 51) dX2_readSum_147 (by decide) ?_
    exact hr51
  · skip
    refine sm_aload_n (pc := 133) (n := 0) dX2_readSum_133 rfl ?_
    refine sm_bipush (pc := 134) dX2_readSum_134 zc_b_6 ?_
    refine sm_iload (pc := 136) (n := 4) dX2_readSum_136 ?_
    refine sm_iload_n (pc := 138) (n := 1) dX2_readSum_138 rfl ?_
    refine sm_iconst (pc := 139) dX2_readSum_139 zc_i_2 ?_
    refine sm_cV (pc := 140) (ci := 2) (n := 5) (mc := 0) (ms := 0) rfl m_X2_fail (cr_X2_115 (X := X_X2_readSum) (fr := 4 + 4 * n + 4) (frc := 2) (pc := 140) (mc := 0) (ms := 0) rfl (by omega) dX2_readSum_140) ?_
    exact sm_zreturn (pc := 143) dX2_readSum_143 rfl
noncomputable def bX2_readSum_77 {d : Nat} (self : List zV → zH d → zP d → Bool) (P : zP d) (r51 : zK d) : zK d := (xald 0 (xgfI 18 14 (xist 4 (xald 0 (xdup (xgfI 18 14 (xpI 1 (xbin zadd (xpfI 18 14 (xald 0 (xild 1 (xcV 18 2 0 0 (f_X2_readTerm self) (xif0 t0eq (xpI 0 (xzret P)) (xald 0 (xald 0 (xgfR 18 2 (xild 1 (xaal (xild 3 (xpI 45 (xjoin (bX2_readSum_121 self P r51) (fun j121 => (xcmp Nat.beq (xpI 1 j121) (xpI 0 j121))))))))))))))))))))))))
set_option maxRecDepth 100000 in
set_option maxHeartbeats 4000000 in
theorem sbX2_readSum_77 {d : Nat} [zGh] (n : Nat) (self : List zV → zH d → zP d → Bool) (hself : zMet X_X2_readSum yX2_readSum (4 + 4 * n) self) (P : zP d) (r51 : zK d) (hr51 : zSim X_X2_readSum (4 + 4 * n + 4) P 51 r51) : zSim X_X2_readSum (4 + 4 * n + 4) P 77 (bX2_readSum_77 self P r51) := by
  unfold bX2_readSum_77
  refine sm_aload_n (pc := 77) (n := 0) dX2_readSum_77 rfl ?_
  refine gf_X2_60 (pc := 78) rfl dX2_readSum_78 ?_
  refine sm_istore (pc := 81) (n := 4) dX2_readSum_81 ?_
  refine sm_aload_n (pc := 83) (n := 0) dX2_readSum_83 rfl ?_
  refine sm_dup (pc := 84) dX2_readSum_84 ?_
  refine gf_X2_60 (pc := 85) rfl dX2_readSum_85 ?_
  refine sm_iconst (pc := 88) dX2_readSum_88 zc_i_1 ?_
  refine sm_iadd (pc := 89) dX2_readSum_89 ?_
  refine pf_X2_60 (pc := 90) rfl dX2_readSum_90 ?_
  refine sm_aload_n (pc := 93) (n := 0) dX2_readSum_93 rfl ?_
  refine sm_iload_n (pc := 94) (n := 1) dX2_readSum_94 rfl ?_
  refine sm_cV (pc := 95) (ci := 2) (n := 2) (mc := 0) (ms := 0) rfl (m_X2_readTerm n self hself) (cr_X2_97 (X := X_X2_readSum) (fr := 4 + 4 * n + 4) (frc := 4 + 4 * n + 3) (pc := 95) (mc := 0) (ms := 0) rfl (by omega) dX2_readSum_95) ?_
  refine sm_if_ne (pc := 98) (tgt := 103) dX2_readSum_98 (by decide) ?_ ?_
  · skip
    refine sm_aload_n (pc := 103) (n := 0) dX2_readSum_103 rfl ?_
    refine sm_aload_n (pc := 104) (n := 0) dX2_readSum_104 rfl ?_
    refine gf_X2_23 (pc := 105) rfl dX2_readSum_105 ?_
    refine sm_iload_n (pc := 108) (n := 1) dX2_readSum_108 rfl ?_
    refine sm_aaload (pc := 109) dX2_readSum_109 ?_
    refine sm_iload_n (pc := 110) (n := 3) dX2_readSum_110 rfl ?_
    refine sm_bipush (pc := 111) dX2_readSum_111 zc_b_45 ?_
    refine sm_join (pc := 113) (pc' := 121) (sbX2_readSum_121 n self hself P r51 hr51) (fun j121 hj121 => ?_)
    refine sm_icmp_ne (pc := 113) (tgt := 120) dX2_readSum_113 (by decide) ?_ ?_
    · skip
      refine sm_iconst (pc := 120) dX2_readSum_120 zc_i_0 ?_
      exact hj121
    · skip
      refine sm_iconst (pc := 116) dX2_readSum_116 zc_i_1 ?_
      refine sm_goto (pc := 117) (tgt := 121) dX2_readSum_117 (by decide) ?_
      exact hj121
  · skip
    refine sm_iconst (pc := 101) dX2_readSum_101 zc_i_0 ?_
    exact sm_zreturn (pc := 102) dX2_readSum_102 rfl
noncomputable def lX2_readSum_51 {d : Nat} (self : List zV → zH d → zP d → Bool) (P : zP d) (r51 : zK d) : zK d := (xild 2 (xpI 200 (xcmp tge (xpI 1 (xzret P)) (xald 0 (xcV 18 1 0 0 f_X2_next (xist 3 (xild 3 (xpI 43 (xjoin (bX2_readSum_77 self P r51) (fun j77 => (xcmp Nat.beq j77 (xild 3 (xpI 45 (xcmp Nat.beq j77 (xpI 1 (xzret P))))))))))))))))
set_option maxRecDepth 100000 in
set_option maxHeartbeats 4000000 in
theorem slX2_readSum_51 {d : Nat} [zGh] (n : Nat) (self : List zV → zH d → zP d → Bool) (hself : zMet X_X2_readSum yX2_readSum (4 + 4 * n) self) (P : zP d) (r51 : zK d) (hr51 : zSim X_X2_readSum (4 + 4 * n + 4) P 51 r51) : zSim X_X2_readSum (4 + 4 * n + 4) P 51 (lX2_readSum_51 self P r51) := by
  unfold lX2_readSum_51
  refine sm_iload_n (pc := 51) (n := 2) dX2_readSum_51 rfl ?_
  refine sm_sipush (pc := 52) dX2_readSum_52 zc_s_200 ?_
  refine sm_icmp_ge (pc := 55) (tgt := 150) dX2_readSum_55 (by decide) ?_ ?_
  · skip
    refine sm_iconst (pc := 150) dX2_readSum_150 zc_i_1 ?_
    exact sm_zreturn (pc := 151) dX2_readSum_151 rfl
  · skip
    refine sm_aload_n (pc := 58) (n := 0) dX2_readSum_58 rfl ?_
    refine sm_cV (pc := 59) (ci := 2) (n := 1) (mc := 0) (ms := 0) rfl m_X2_next (cr_X2_74 (X := X_X2_readSum) (fr := 4 + 4 * n + 4) (frc := 1) (pc := 59) (mc := 0) (ms := 0) rfl (by omega) dX2_readSum_59) ?_
    refine sm_istore_n (pc := 62) (n := 3) dX2_readSum_62 rfl ?_
    refine sm_iload_n (pc := 63) (n := 3) dX2_readSum_63 rfl ?_
    refine sm_bipush (pc := 64) dX2_readSum_64 zc_b_43 ?_
    refine sm_join (pc := 66) (pc' := 77) (sbX2_readSum_77 n self hself P r51 hr51) (fun j77 hj77 => ?_)
    refine sm_icmp_eq (pc := 66) (tgt := 77) dX2_readSum_66 (by decide) ?_ ?_
    · skip
      exact hj77
    · skip
      refine sm_iload_n (pc := 69) (n := 3) dX2_readSum_69 rfl ?_
      refine sm_bipush (pc := 70) dX2_readSum_70 zc_b_45 ?_
      refine sm_icmp_eq (pc := 72) (tgt := 77) dX2_readSum_72 (by decide) ?_ ?_
      · skip
        exact hj77
      · skip
        refine sm_iconst (pc := 75) dX2_readSum_75 zc_i_1 ?_
        exact sm_zreturn (pc := 76) dX2_readSum_76 rfl
noncomputable def cX2_readSum_40 {d : Nat} (self : List zV → zH d → zP d → Bool) (P : zP d) : zK d := (xgfR 18 12 (xgfI 23 1 (xcpy 2 72 (xpI 0 (xist 2 (xloop (fun r51 => (lX2_readSum_51 self P r51)) 100000))))))
set_option maxRecDepth 100000 in
set_option maxHeartbeats 4000000 in
theorem scX2_readSum_40 {d : Nat} [zGh] (n : Nat) (self : List zV → zH d → zP d → Bool) (hself : zMet X_X2_readSum yX2_readSum (4 + 4 * n) self) (P : zP d) : zSim X_X2_readSum (4 + 4 * n + 4) P 40 (cX2_readSum_40 self P) := by
  unfold cX2_readSum_40
  refine gf_X2_49 (pc := 40) rfl dX2_readSum_40 ?_
  refine gf_X2_100 (pc := 43) rfl dX2_readSum_43 ?_
  refine sm_copyJ (pc := 46) wd_753 wd_80 wd_79 wd_7 (by omega) dX2_readSum_46 ?_
  refine sm_iconst (pc := 49) dX2_readSum_49 zc_i_0 ?_
  refine sm_istore_n (pc := 50) (n := 2) dX2_readSum_50 rfl ?_
  exact sm_loop (fun r51 hr51 => slX2_readSum_51 n self hself P r51 hr51) _
noncomputable def b_X2_readSum {d : Nat} (self : List zV → zH d → zP d → Bool) (P : zP d) : zK d := (xald 0 (xcV 18 1 0 0 f_X2_next (xpop (xald 0 (xgfR 18 4 (xild 1 (xald 0 (xgfI 18 14 (xast1 0 (fun v => v) (xald 0 (xild 1 (xcV 18 2 0 0 (f_X2_readTerm self) (xif0 t0eq (xpI 0 (xzret P)) (xald 0 (xgfR 18 2 (xild 1 (xaal (xpI 0 (xald 0 (xgfR 18 1 (xild 1 (xaal (xpI 0 (xald 0 (cX2_readSum_40 self P)))))))))))))))))))))))))
set_option maxRecDepth 100000 in
set_option maxHeartbeats 4000000 in
theorem s_X2_readSum {d : Nat} [zGh] (n : Nat) (self : List zV → zH d → zP d → Bool) (hself : zMet X_X2_readSum yX2_readSum (4 + 4 * n) self) (P : zP d) : zSim X_X2_readSum (4 + 4 * n + 4) P 0 (b_X2_readSum self P) := by
  unfold b_X2_readSum
  refine sm_aload_n (pc := 0) (n := 0) dX2_readSum_0 rfl ?_
  refine sm_cV (pc := 1) (ci := 2) (n := 1) (mc := 0) (ms := 0) rfl m_X2_next (cr_X2_74 (X := X_X2_readSum) (fr := 4 + 4 * n + 4) (frc := 1) (pc := 1) (mc := 0) (ms := 0) rfl (by omega) dX2_readSum_1) ?_
  refine sm_pop (pc := 4) dX2_readSum_4 ?_
  refine sm_aload_n (pc := 5) (n := 0) dX2_readSum_5 rfl ?_
  refine gf_X2_29 (pc := 6) rfl dX2_readSum_6 ?_
  refine sm_iload_n (pc := 9) (n := 1) dX2_readSum_9 rfl ?_
  refine sm_aload_n (pc := 10) (n := 0) dX2_readSum_10 rfl ?_
  refine gf_X2_60 (pc := 11) rfl dX2_readSum_11 ?_
  refine sm_iastore (pc := 14) dX2_readSum_14 ?_
  refine sm_aload_n (pc := 15) (n := 0) dX2_readSum_15 rfl ?_
  refine sm_iload_n (pc := 16) (n := 1) dX2_readSum_16 rfl ?_
  refine sm_cV (pc := 17) (ci := 2) (n := 2) (mc := 0) (ms := 0) rfl (m_X2_readTerm n self hself) (cr_X2_97 (X := X_X2_readSum) (fr := 4 + 4 * n + 4) (frc := 4 + 4 * n + 3) (pc := 17) (mc := 0) (ms := 0) rfl (by omega) dX2_readSum_17) ?_
  refine sm_if_ne (pc := 20) (tgt := 25) dX2_readSum_20 (by decide) ?_ ?_
  · skip
    refine sm_aload_n (pc := 25) (n := 0) dX2_readSum_25 rfl ?_
    refine gf_X2_23 (pc := 26) rfl dX2_readSum_26 ?_
    refine sm_iload_n (pc := 29) (n := 1) dX2_readSum_29 rfl ?_
    refine sm_aaload (pc := 30) dX2_readSum_30 ?_
    refine sm_iconst (pc := 31) dX2_readSum_31 zc_i_0 ?_
    refine sm_aload_n (pc := 32) (n := 0) dX2_readSum_32 rfl ?_
    refine gf_X2_20 (pc := 33) rfl dX2_readSum_33 ?_
    refine sm_iload_n (pc := 36) (n := 1) dX2_readSum_36 rfl ?_
    refine sm_aaload (pc := 37) dX2_readSum_37 ?_
    refine sm_iconst (pc := 38) dX2_readSum_38 zc_i_0 ?_
    refine sm_aload_n (pc := 39) (n := 0) dX2_readSum_39 rfl ?_
    exact scX2_readSum_40 n self hself P
  · skip
    refine sm_iconst (pc := 23) dX2_readSum_23 zc_i_0 ?_
    exact sm_zreturn (pc := 24) dX2_readSum_24 rfl

noncomputable def f_X2_readSum {d : Nat} : List zV → zH d → zP d → Bool := zrec 5 b_X2_readSum 6
theorem m_X2_readSum {d : Nat} : zMet (d := d) X_X2_readSum yX2_readSum 28 f_X2_readSum := zmet_rec4 (X := X_X2_readSum) (fr := 4) (by decide) rfl rfl (fun n f hf _ P => s_X2_readSum n f hf P) 6

abbrev X_X2_read : zM := (RX2, cX2_read, 1, (some .boolean), "read")
noncomputable def bX2_read_54 {d : Nat} (P : zP d) : zK d := (xzret P)
set_option maxRecDepth 100000 in
set_option maxHeartbeats 4000000 in
theorem sbX2_read_54 {d : Nat} [zGh] (P : zP d) : zSim X_X2_read 29 P 54 (bX2_read_54 P) := by
  unfold bX2_read_54
  exact sm_zreturn (pc := 54) dX2_read_54 rfl
noncomputable def bX2_read_53 {d : Nat} (P : zP d) (j54 : zK d) : zK d := (xpI 0 j54)
set_option maxRecDepth 100000 in
set_option maxHeartbeats 4000000 in
theorem sbX2_read_53 {d : Nat} [zGh] (P : zP d) (j54 : zK d) (hj54 : zSim X_X2_read 29 P 54 j54) : zSim X_X2_read 29 P 53 (bX2_read_53 P j54) := by
  unfold bX2_read_53
  refine sm_iconst (pc := 53) dX2_read_53 zc_i_0 ?_
  exact hj54
noncomputable def bX2_read_49 {d : Nat} (P : zP d) (j54 : zK d) : zK d := (xpI 1 j54)
set_option maxRecDepth 100000 in
set_option maxHeartbeats 4000000 in
theorem sbX2_read_49 {d : Nat} [zGh] (P : zP d) (j54 : zK d) (hj54 : zSim X_X2_read 29 P 54 j54) : zSim X_X2_read 29 P 49 (bX2_read_49 P j54) := by
  unfold bX2_read_49
  refine sm_iconst (pc := 49) dX2_read_49 zc_i_1 ?_
  refine sm_goto (pc := 50) (tgt := 54) dX2_read_50 (by decide) ?_
  exact hj54
noncomputable def cX2_read_46 {d : Nat} (P : zP d) (j49 : zK d) (j53 : zK d) : zK d := (xif0 t0eq j53 j49)
set_option maxRecDepth 100000 in
set_option maxHeartbeats 4000000 in
theorem scX2_read_46 {d : Nat} [zGh] (P : zP d) (j49 : zK d) (j53 : zK d) (hj49 : zSim X_X2_read 29 P 49 j49) (hj53 : zSim X_X2_read 29 P 53 j53) : zSim X_X2_read 29 P 46 (cX2_read_46 P j49 j53) := by
  unfold cX2_read_46
  refine sm_if_eq (pc := 46) (tgt := 53) dX2_read_46 (by decide) ?_ ?_
  · skip
    exact hj53
  · skip
    exact hj49
noncomputable def b_X2_read {d : Nat} (P : zP d) : zK d := (xald 0 (xgfR 18 0 (xcV 17 1 0 0 f_X1_clear (xald 0 (xpI 0 (xpfI 18 14 (xald 0 (xgfR 18 1 (xpI 0 (xaal (xpL 0 (xcS 2 0 0 f_J7_fill_d0a16 (xald 0 (xpI 0 (xcV 18 2 0 0 f_X2_readSum (xjoin (bX2_read_54 P) (fun j54 => (xjoin (bX2_read_53 P j54) (fun j53 => (xif0 t0eq j53 (xald 0 (xcV 18 1 0 0 f_X2_next (xpI 4294967295 (xjoin (bX2_read_49 P j54) (fun j49 => (xcmp Nat.beq j49 (xald 0 (xald 0 (xgfI 18 14 (xcV 18 2 0 0 f_X2_refuse (cX2_read_46 P j49 j53)))))))))))))))))))))))))))))))
set_option maxRecDepth 100000 in
set_option maxHeartbeats 4000000 in
theorem s_X2_read {d : Nat} [zGh] (P : zP d) : zSim X_X2_read 29 P 0 (b_X2_read P) := by
  unfold b_X2_read
  refine sm_aload_n (pc := 0) (n := 0) dX2_read_0 rfl ?_
  refine gf_X2_12 (pc := 1) rfl dX2_read_1 ?_
  refine sm_cV (pc := 4) (ci := 1) (n := 1) (mc := 0) (ms := 0) rfl m_X1_clear (cr_X2_57 (X := X_X2_read) (fr := 29) (frc := 1) (pc := 4) (mc := 0) (ms := 0) rfl (by decide) dX2_read_4) ?_
  refine sm_aload_n (pc := 7) (n := 0) dX2_read_7 rfl ?_
  refine sm_iconst (pc := 8) dX2_read_8 zc_i_0 ?_
  refine pf_X2_60 (pc := 9) rfl dX2_read_9 ?_
  refine sm_aload_n (pc := 12) (n := 0) dX2_read_12 rfl ?_
  refine gf_X2_20 (pc := 13) rfl dX2_read_13 ?_
  refine sm_iconst (pc := 16) dX2_read_16 zc_i_0 ?_
  refine sm_aaload (pc := 17) dX2_read_17 ?_
  refine sm_lconst (pc := 18) dX2_read_18 zc_l_0 ?_
  refine sm_cS (pc := 19) (n := 2) (mc := 0) (ms := 0) m_J7_fill_d0a16 (cr_X2_64 (X := X_X2_read) (fr := 29) (frc := 1) (pc := 19) (mc := 0) (ms := 0) rfl (by decide) dX2_read_19) ?_
  refine sm_aload_n (pc := 22) (n := 0) dX2_read_22 rfl ?_
  refine sm_iconst (pc := 23) dX2_read_23 zc_i_0 ?_
  refine sm_cV (pc := 24) (ci := 2) (n := 2) (mc := 0) (ms := 0) rfl m_X2_readSum (cr_X2_70 (X := X_X2_read) (fr := 29) (frc := 28) (pc := 24) (mc := 0) (ms := 0) rfl (by decide) dX2_read_24) ?_
  refine sm_join (pc := 27) (pc' := 54) (sbX2_read_54 P) (fun j54 hj54 => ?_)
  refine sm_join (pc := 27) (pc' := 53) (sbX2_read_53 P j54 hj54) (fun j53 hj53 => ?_)
  refine sm_if_eq (pc := 27) (tgt := 53) dX2_read_27 (by decide) ?_ ?_
  · skip
    exact hj53
  · skip
    refine sm_aload_n (pc := 30) (n := 0) dX2_read_30 rfl ?_
    refine sm_cV (pc := 31) (ci := 2) (n := 1) (mc := 0) (ms := 0) rfl m_X2_next (cr_X2_74 (X := X_X2_read) (fr := 29) (frc := 1) (pc := 31) (mc := 0) (ms := 0) rfl (by decide) dX2_read_31) ?_
    refine sm_iconst (pc := 34) dX2_read_34 zc_i_m1 ?_
    refine sm_join (pc := 35) (pc' := 49) (sbX2_read_49 P j54 hj54) (fun j49 hj49 => ?_)
    refine sm_icmp_eq (pc := 35) (tgt := 49) dX2_read_35 (by decide) ?_ ?_
    · skip
      exact hj49
    · skip
      refine sm_aload_n (pc := 38) (n := 0) dX2_read_38 rfl ?_
      refine sm_aload_n (pc := 39) (n := 0) dX2_read_39 rfl ?_
      refine gf_X2_60 (pc := 40) rfl dX2_read_40 ?_
      refine sm_cV (pc := 43) (ci := 2) (n := 2) (mc := 0) (ms := 0) rfl m_X2_refuse (cr_X2_78 (X := X_X2_read) (fr := 29) (frc := 2) (pc := 43) (mc := 0) (ms := 0) rfl (by decide) dX2_read_43) ?_
      exact scX2_read_46 P j49 j53 hj49 hj53
noncomputable def f_X2_read {d : Nat} : List zV → zH d → zP d → Bool := zfn 1 b_X2_read
theorem m_X2_read {d : Nat} : zMet (d := d) X_X2_read yX2_read 29 f_X2_read := zmet_mk (X := X_X2_read) (by decide) rfl rfl s_X2_read

