/-! the class, by program -/
abbrev X_X7_numberOf : zM := (RX7, cX7_numberOf, 6, (some .int), "numberOf")
noncomputable def bX7_numberOf_72 {d : Nat} (P : zP d) (r2 : zK d) : zK d := (xinc 3 1 r2)
set_option maxRecDepth 100000 in
set_option maxHeartbeats 4000000 in
theorem sbX7_numberOf_72 {d : Nat} [zGh] (P : zP d) (r2 : zK d) (hr2 : zSim X_X7_numberOf 1 P 2 r2) : zSim X_X7_numberOf 1 P 72 (bX7_numberOf_72 P r2) := by
  unfold bX7_numberOf_72
  refine sm_iinc (pc := 72) (n := 3) dX7_numberOf_72 zc_i_1 ?_
  refine sm_goto (pc := 75) (tgt := 2) dX7_numberOf_75 (by decide) ?_
  exact hr2
noncomputable def bX7_numberOf_56 {d : Nat} (P : zP d) (r2 : zK d) : zK d := (xild 5 (xald 4 (xlen (xjoin (bX7_numberOf_72 P r2) (fun j72 => (xcmp Nat.beq (xild 5 (xild 2 (xcmp Nat.beq (xild 3 (xiret P)) j72))) j72))))))
set_option maxRecDepth 100000 in
set_option maxHeartbeats 4000000 in
theorem sbX7_numberOf_56 {d : Nat} [zGh] (P : zP d) (r2 : zK d) (hr2 : zSim X_X7_numberOf 1 P 2 r2) : zSim X_X7_numberOf 1 P 56 (bX7_numberOf_56 P r2) := by
  unfold bX7_numberOf_56
  refine sm_iload (pc := 56) (n := 5) dX7_numberOf_56 ?_
  refine sm_aload (pc := 58) (n := 4) dX7_numberOf_58 ?_
  refine sm_arraylength (pc := 60) dX7_numberOf_60 ?_
  refine sm_join (pc := 61) (pc' := 72) (sbX7_numberOf_72 P r2 hr2) (fun j72 hj72 => ?_)
  refine sm_icmp_ne (pc := 61) (tgt := 72) dX7_numberOf_61 (by decide) ?_ ?_
  · skip
    exact hj72
  · skip
    refine sm_iload (pc := 64) (n := 5) dX7_numberOf_64 ?_
    refine sm_iload_n (pc := 66) (n := 2) dX7_numberOf_66 rfl ?_
    refine sm_icmp_ne (pc := 67) (tgt := 72) dX7_numberOf_67 (by decide) ?_ ?_
    · skip
      exact hj72
    · skip
      refine sm_iload_n (pc := 70) (n := 3) dX7_numberOf_70 rfl ?_
      exact sm_ireturn (pc := 71) dX7_numberOf_71 rfl
noncomputable def lX7_numberOf_24 {d : Nat} (P : zP d) (r2 : zK d) (r24 : zK d) : zK d := (xild 5 (xald 4 (xlen (xjoin (bX7_numberOf_56 P r2) (fun j56 => (xcmp tge j56 (xild 5 (xild 2 (xcmp tge j56 (xald 4 (xild 5 (xald1 0 (xald 1 (xild 5 (xald1 0 (xcmp Nat.beq (xinc 5 1 r24) j56))))))))))))))))
set_option maxRecDepth 100000 in
set_option maxHeartbeats 4000000 in
theorem slX7_numberOf_24 {d : Nat} [zGh] (P : zP d) (r2 : zK d) (r24 : zK d) (hr2 : zSim X_X7_numberOf 1 P 2 r2) (hr24 : zSim X_X7_numberOf 1 P 24 r24) : zSim X_X7_numberOf 1 P 24 (lX7_numberOf_24 P r2 r24) := by
  unfold lX7_numberOf_24
  refine sm_iload (pc := 24) (n := 5) dX7_numberOf_24 ?_
  refine sm_aload (pc := 26) (n := 4) dX7_numberOf_26 ?_
  refine sm_arraylength (pc := 28) dX7_numberOf_28 ?_
  refine sm_join (pc := 29) (pc' := 56) (sbX7_numberOf_56 P r2 hr2) (fun j56 hj56 => ?_)
  refine sm_icmp_ge (pc := 29) (tgt := 56) dX7_numberOf_29 (by decide) ?_ ?_
  · skip
    exact hj56
  · skip
    refine sm_iload (pc := 32) (n := 5) dX7_numberOf_32 ?_
    refine sm_iload_n (pc := 34) (n := 2) dX7_numberOf_34 rfl ?_
    refine sm_icmp_ge (pc := 35) (tgt := 56) dX7_numberOf_35 (by decide) ?_ ?_
    · skip
      exact hj56
    · skip
      refine sm_aload (pc := 38) (n := 4) dX7_numberOf_38 ?_
      refine sm_iload (pc := 40) (n := 5) dX7_numberOf_40 ?_
      refine sm_iaload (pc := 42) dX7_numberOf_42 ?_
      refine sm_aload_n (pc := 43) (n := 1) dX7_numberOf_43 rfl ?_
      refine sm_iload (pc := 44) (n := 5) dX7_numberOf_44 ?_
      refine sm_iaload (pc := 46) dX7_numberOf_46 ?_
      refine sm_icmp_ne (pc := 47) (tgt := 56) dX7_numberOf_47 (by decide) ?_ ?_
      · skip
        exact hj56
      · skip
        refine sm_iinc (pc := 50) (n := 5) dX7_numberOf_50 zc_i_1 ?_
        refine sm_goto (pc := 53) (tgt := 24) dX7_numberOf_53 (by decide) ?_
        exact hr24
noncomputable def lX7_numberOf_2 {d : Nat} (P : zP d) (r2 : zK d) : zK d := (xild 3 (xald 0 (xgfI 23 1 (xcmp tge (xpI 4294967295 (xiret P)) (xald 0 (xgfR 23 3 (xild 3 (xaal (xgfR 20 2 (xast 4 (xpI 0 (xist 5 (xloop (fun r24 => (lX7_numberOf_24 P r2 r24)) 100000)))))))))))))
set_option maxRecDepth 100000 in
set_option maxHeartbeats 4000000 in
theorem slX7_numberOf_2 {d : Nat} [zGh] (P : zP d) (r2 : zK d) (hr2 : zSim X_X7_numberOf 1 P 2 r2) : zSim X_X7_numberOf 1 P 2 (lX7_numberOf_2 P r2) := by
  unfold lX7_numberOf_2
  refine sm_iload_n (pc := 2) (n := 3) dX7_numberOf_2 rfl ?_
  refine sm_aload_n (pc := 3) (n := 0) dX7_numberOf_3 rfl ?_
  refine gf_X7_19 (pc := 4) rfl dX7_numberOf_4 ?_
  refine sm_icmp_ge (pc := 7) (tgt := 78) dX7_numberOf_7 (by decide) ?_ ?_
  · skip
    refine sm_iconst (pc := 78) dX7_numberOf_78 zc_i_m1 ?_
    exact sm_ireturn (pc := 79) dX7_numberOf_79 rfl
  · skip
    refine sm_aload_n (pc := 10) (n := 0) dX7_numberOf_10 rfl ?_
    refine gf_X7_24 (pc := 11) rfl dX7_numberOf_11 ?_
    refine sm_iload_n (pc := 14) (n := 3) dX7_numberOf_14 rfl ?_
    refine sm_aaload (pc := 15) dX7_numberOf_15 ?_
    refine gf_X7_98 (pc := 16) rfl dX7_numberOf_16 ?_
    refine sm_astore (pc := 19) (n := 4) dX7_numberOf_19 ?_
    refine sm_iconst (pc := 21) dX7_numberOf_21 zc_i_0 ?_
    refine sm_istore (pc := 22) (n := 5) dX7_numberOf_22 ?_
    exact sm_loop (fun r24 hr24 => slX7_numberOf_24 P r2 r24 hr2 hr24) _
noncomputable def b_X7_numberOf {d : Nat} (P : zP d) : zK d := (xpI 0 (xist 3 (xloop (fun r2 => (lX7_numberOf_2 P r2)) 100000)))
set_option maxRecDepth 100000 in
set_option maxHeartbeats 4000000 in
theorem s_X7_numberOf {d : Nat} [zGh] (P : zP d) : zSim X_X7_numberOf 1 P 0 (b_X7_numberOf P) := by
  unfold b_X7_numberOf
  refine sm_iconst (pc := 0) dX7_numberOf_0 zc_i_0 ?_
  refine sm_istore_n (pc := 1) (n := 3) dX7_numberOf_1 rfl ?_
  exact sm_loop (fun r2 hr2 => slX7_numberOf_2 P r2 hr2) _
noncomputable def f_X7_numberOf {d : Nat} : List zV → zH d → zP d → Bool := zfn 6 b_X7_numberOf
theorem m_X7_numberOf {d : Nat} : zMet (d := d) X_X7_numberOf yX7_numberOf 1 f_X7_numberOf := zmet_mk (X := X_X7_numberOf) (by decide) rfl rfl s_X7_numberOf

abbrev X_X7_stepOn : zM := (RX7, cX7_stepOn, 6, (some .int), "stepOn")
noncomputable def bX7_stepOn_82 {d : Nat} (P : zP d) : zK d := (xild 5 (xiret P))
set_option maxRecDepth 100000 in
set_option maxHeartbeats 4000000 in
theorem sbX7_stepOn_82 {d : Nat} [zGh] (P : zP d) : zSim X_X7_stepOn 1 P 82 (bX7_stepOn_82 P) := by
  unfold bX7_stepOn_82
  refine sm_iload (pc := 82) (n := 5) dX7_stepOn_82 ?_
  exact sm_ireturn (pc := 84) dX7_stepOn_84 rfl
noncomputable def lX7_stepOn_48 {d : Nat} (P : zP d) (r48 : zK d) : zK d := (xild 3 (xjoin (bX7_stepOn_82 P) (fun j82 => (xif0 t0le j82 (xild 5 (xald 0 (xlen (xcmp tge j82 (xald 0 (xild 5 (xild 4 (xild 3 (xmm zmin (xast1 0 (fun v => v) (xild 3 (xald 0 (xild 5 (xald1 0 (xbin zsub (xist 3 (xinc 5 1 r48)))))))))))))))))))))
set_option maxRecDepth 100000 in
set_option maxHeartbeats 4000000 in
theorem slX7_stepOn_48 {d : Nat} [zGh] (P : zP d) (r48 : zK d) (hr48 : zSim X_X7_stepOn 1 P 48 r48) : zSim X_X7_stepOn 1 P 48 (lX7_stepOn_48 P r48) := by
  unfold lX7_stepOn_48
  refine sm_iload_n (pc := 48) (n := 3) dX7_stepOn_48 rfl ?_
  refine sm_join (pc := 49) (pc' := 82) (sbX7_stepOn_82 P) (fun j82 hj82 => ?_)
  refine sm_if_le (pc := 49) (tgt := 82) dX7_stepOn_49 (by decide) ?_ ?_
  · skip
    exact hj82
  · skip
    refine sm_iload (pc := 52) (n := 5) dX7_stepOn_52 ?_
    refine sm_aload_n (pc := 54) (n := 0) dX7_stepOn_54 rfl ?_
    refine sm_arraylength (pc := 55) dX7_stepOn_55 ?_
    refine sm_icmp_ge (pc := 56) (tgt := 82) dX7_stepOn_56 (by decide) ?_ ?_
    · skip
      exact hj82
    · skip
      refine sm_aload_n (pc := 59) (n := 0) dX7_stepOn_59 rfl ?_
      refine sm_iload (pc := 60) (n := 5) dX7_stepOn_60 ?_
      refine sm_iload (pc := 62) (n := 4) dX7_stepOn_62 ?_
      refine sm_iload_n (pc := 64) (n := 3) dX7_stepOn_64 rfl ?_
      refine sm_mmin (pc := 65) wd_192 wd_76 wd_6 wd_77 (by decide) dX7_stepOn_65 ?_
      refine sm_iastore (pc := 68) dX7_stepOn_68 ?_
      refine sm_iload_n (pc := 69) (n := 3) dX7_stepOn_69 rfl ?_
      refine sm_aload_n (pc := 70) (n := 0) dX7_stepOn_70 rfl ?_
      refine sm_iload (pc := 71) (n := 5) dX7_stepOn_71 ?_
      refine sm_iaload (pc := 73) dX7_stepOn_73 ?_
      refine sm_isub (pc := 74) dX7_stepOn_74 ?_
      refine sm_istore_n (pc := 75) (n := 3) dX7_stepOn_75 rfl ?_
      refine sm_iinc (pc := 76) (n := 5) dX7_stepOn_76 zc_i_1 ?_
      refine sm_goto (pc := 79) (tgt := 48) dX7_stepOn_79 (by decide) ?_
      exact hr48
noncomputable def bX7_stepOn_21 {d : Nat} (P : zP d) : zK d := (xild 2 (xif0 t0ge (xild 1 (xild 2 (xbin zsub (xist 3 (xald 0 (xild 2 (xald1 0 (xpI 1 (xbin zsub (xist 4 (xald 0 (xild 2 (xild 4 (xast1 0 (fun v => v) (xild 2 (xpI 1 (xbin zadd (xist 5 (xloop (fun r48 => (lX7_stepOn_48 P r48)) 100000))))))))))))))))))) (xild 1 (xiret P))))
set_option maxRecDepth 100000 in
set_option maxHeartbeats 4000000 in
theorem sbX7_stepOn_21 {d : Nat} [zGh] (P : zP d) : zSim X_X7_stepOn 1 P 21 (bX7_stepOn_21 P) := by
  unfold bX7_stepOn_21
  refine sm_iload_n (pc := 21) (n := 2) dX7_stepOn_21 rfl ?_
  refine sm_if_ge (pc := 22) (tgt := 27) dX7_stepOn_22 (by decide) ?_ ?_
  · skip
    refine sm_iload_n (pc := 27) (n := 1) dX7_stepOn_27 rfl ?_
    refine sm_iload_n (pc := 28) (n := 2) dX7_stepOn_28 rfl ?_
    refine sm_isub (pc := 29) dX7_stepOn_29 ?_
    refine sm_istore_n (pc := 30) (n := 3) dX7_stepOn_30 rfl ?_
    refine sm_aload_n (pc := 31) (n := 0) dX7_stepOn_31 rfl ?_
    refine sm_iload_n (pc := 32) (n := 2) dX7_stepOn_32 rfl ?_
    refine sm_iaload (pc := 33) dX7_stepOn_33 ?_
    refine sm_iconst (pc := 34) dX7_stepOn_34 zc_i_1 ?_
    refine sm_isub (pc := 35) dX7_stepOn_35 ?_
    refine sm_istore (pc := 36) (n := 4) dX7_stepOn_36 ?_
    refine sm_aload_n (pc := 38) (n := 0) dX7_stepOn_38 rfl ?_
    refine sm_iload_n (pc := 39) (n := 2) dX7_stepOn_39 rfl ?_
    refine sm_iload (pc := 40) (n := 4) dX7_stepOn_40 ?_
    refine sm_iastore (pc := 42) dX7_stepOn_42 ?_
    refine sm_iload_n (pc := 43) (n := 2) dX7_stepOn_43 rfl ?_
    refine sm_iconst (pc := 44) dX7_stepOn_44 zc_i_1 ?_
    refine sm_iadd (pc := 45) dX7_stepOn_45 ?_
    refine sm_istore (pc := 46) (n := 5) dX7_stepOn_46 ?_
    exact sm_loop (fun r48 hr48 => slX7_stepOn_48 P r48 hr48) _
  · skip
    refine sm_iload_n (pc := 25) (n := 1) dX7_stepOn_25 rfl ?_
    exact sm_ireturn (pc := 26) dX7_stepOn_26 rfl
noncomputable def lX7_stepOn_4 {d : Nat} (P : zP d) (r4 : zK d) : zK d := (xild 2 (xjoin (bX7_stepOn_21 P) (fun j21 => (xif0 t0ge (xald 0 (xild 2 (xald1 0 (xpI 1 (xcmp Nat.beq (xinc 2 4294967295 r4) j21))))) j21))))
set_option maxRecDepth 100000 in
set_option maxHeartbeats 4000000 in
theorem slX7_stepOn_4 {d : Nat} [zGh] (P : zP d) (r4 : zK d) (hr4 : zSim X_X7_stepOn 1 P 4 r4) : zSim X_X7_stepOn 1 P 4 (lX7_stepOn_4 P r4) := by
  unfold lX7_stepOn_4
  refine sm_iload_n (pc := 4) (n := 2) dX7_stepOn_4 rfl ?_
  refine sm_join (pc := 5) (pc' := 21) (sbX7_stepOn_21 P) (fun j21 hj21 => ?_)
  refine sm_if_lt (pc := 5) (tgt := 21) dX7_stepOn_5 (by decide) ?_ ?_
  · skip
    exact hj21
  · skip
    refine sm_aload_n (pc := 8) (n := 0) dX7_stepOn_8 rfl ?_
    refine sm_iload_n (pc := 9) (n := 2) dX7_stepOn_9 rfl ?_
    refine sm_iaload (pc := 10) dX7_stepOn_10 ?_
    refine sm_iconst (pc := 11) dX7_stepOn_11 zc_i_1 ?_
    refine sm_icmp_ne (pc := 12) (tgt := 21) dX7_stepOn_12 (by decide) ?_ ?_
    · skip
      exact hj21
    · skip
      refine sm_iinc (pc := 15) (n := 2) dX7_stepOn_15 zc_i_m1 ?_
      refine sm_goto (pc := 18) (tgt := 4) dX7_stepOn_18 (by decide) ?_
      exact hr4
noncomputable def b_X7_stepOn {d : Nat} (P : zP d) : zK d := (xild 1 (xpI 1 (xbin zsub (xist 2 (xloop (fun r4 => (lX7_stepOn_4 P r4)) 100000)))))
set_option maxRecDepth 100000 in
set_option maxHeartbeats 4000000 in
theorem s_X7_stepOn {d : Nat} [zGh] (P : zP d) : zSim X_X7_stepOn 1 P 0 (b_X7_stepOn P) := by
  unfold b_X7_stepOn
  refine sm_iload_n (pc := 0) (n := 1) dX7_stepOn_0 rfl ?_
  refine sm_iconst (pc := 1) dX7_stepOn_1 zc_i_1 ?_
  refine sm_isub (pc := 2) dX7_stepOn_2 ?_
  refine sm_istore_n (pc := 3) (n := 2) dX7_stepOn_3 rfl ?_
  exact sm_loop (fun r4 hr4 => slX7_stepOn_4 P r4 hr4) _
noncomputable def f_X7_stepOn {d : Nat} : List zV → zH d → zP d → Bool := zfn 6 b_X7_stepOn
theorem m_X7_stepOn {d : Nat} : zMet (d := d) X_X7_stepOn yX7_stepOn 1 f_X7_stepOn := zmet_mk (X := X_X7_stepOn) (by decide) rfl rfl s_X7_stepOn

abbrev X_X7_makeShapes : zM := (RX7, cX7_makeShapes, 4, none, "makeShapes")
noncomputable def lX7_makeShapes_18 {d : Nat} (P : zP d) (r18 : zK d) : zK d := (xild 3 (xald 0 (xgfI 23 1 (xcmp tge (xvret P) (xald 0 (xgfR 23 3 (xild 3 (xnew 20 16 (xdup (xald 1 (xild 2 (xald 0 (xgfI 23 0 (xcV 20 4 64 6000 f_X4_init (xaas 5 20 (xald 1 (xild 2 (xcS 2 0 0 f_X7_stepOn (xist 2 (xinc 3 1 r18))))))))))))))))))))
set_option maxRecDepth 100000 in
set_option maxHeartbeats 4000000 in
theorem slX7_makeShapes_18 {d : Nat} [zGh] (P : zP d) (r18 : zK d) (hr18 : zSim X_X7_makeShapes 11 P 18 r18) : zSim X_X7_makeShapes 11 P 18 (lX7_makeShapes_18 P r18) := by
  unfold lX7_makeShapes_18
  refine sm_iload_n (pc := 18) (n := 3) dX7_makeShapes_18 rfl ?_
  refine sm_aload_n (pc := 19) (n := 0) dX7_makeShapes_19 rfl ?_
  refine gf_X7_19 (pc := 20) rfl dX7_makeShapes_20 ?_
  refine sm_icmp_ge (pc := 23) (tgt := 57) dX7_makeShapes_23 (by decide) ?_ ?_
  · skip
    exact sm_vreturn (pc := 57) dX7_makeShapes_57 rfl
  · skip
    refine sm_aload_n (pc := 26) (n := 0) dX7_makeShapes_26 rfl ?_
    refine gf_X7_24 (pc := 27) rfl dX7_makeShapes_27 ?_
    refine sm_iload_n (pc := 30) (n := 3) dX7_makeShapes_30 rfl ?_
    refine sm_new (pc := 31) (ci := 4) (C := RX4) (T := TX4) (N := 16) (ty0 := tyX4) rfl rfl (by decide) (by decide) inz4 tyX4_ok rfl wd_54 wd_60 wd_4 dX7_makeShapes_31 ?_
    refine sm_dup (pc := 34) dX7_makeShapes_34 ?_
    refine sm_aload_n (pc := 35) (n := 1) dX7_makeShapes_35 rfl ?_
    refine sm_iload_n (pc := 36) (n := 2) dX7_makeShapes_36 rfl ?_
    refine sm_aload_n (pc := 37) (n := 0) dX7_makeShapes_37 rfl ?_
    refine gf_X7_9 (pc := 38) rfl dX7_makeShapes_38 ?_
    refine sm_cV (pc := 41) (ci := 4) (n := 4) (mc := 64) (ms := 6000) rfl m_X4_init (cr_X7_101 (X := X_X7_makeShapes) (fr := 11) (frc := 10) (pc := 41) (mc := 64) (ms := 6000) rfl (by decide) dX7_makeShapes_41) ?_
    refine sm_aastore (pc := 44) (kc := 5) (ci := 4) (by decide) (by decide) rfl rfl (fun _ => rfl) dX7_makeShapes_44 ?_
    refine sm_aload_n (pc := 45) (n := 1) dX7_makeShapes_45 rfl ?_
    refine sm_iload_n (pc := 46) (n := 2) dX7_makeShapes_46 rfl ?_
    refine sm_cS (pc := 47) (n := 2) (mc := 0) (ms := 0) m_X7_stepOn (cr_X7_104 (X := X_X7_makeShapes) (fr := 11) (frc := 1) (pc := 47) (mc := 0) (ms := 0) rfl (by decide) dX7_makeShapes_47) ?_
    refine sm_istore_n (pc := 50) (n := 2) dX7_makeShapes_50 rfl ?_
    refine sm_iinc (pc := 51) (n := 3) dX7_makeShapes_51 zc_i_1 ?_
    refine sm_goto (pc := 54) (tgt := 18) dX7_makeShapes_54 (by decide) ?_
    exact hr18
noncomputable def b_X7_makeShapes {d : Nat} (P : zP d) : zK d := (xald 0 (xgfI 23 0 (xnwa 0 (xast 1 (xald 1 (xpI 0 (xald 0 (xgfI 23 0 (xast1 0 (fun v => v) (xpI 1 (xist 2 (xpI 0 (xist 3 (xloop (fun r18 => (lX7_makeShapes_18 P r18)) 100000))))))))))))))
set_option maxRecDepth 100000 in
set_option maxHeartbeats 4000000 in
theorem s_X7_makeShapes {d : Nat} [zGh] (P : zP d) : zSim X_X7_makeShapes 11 P 0 (b_X7_makeShapes P) := by
  unfold b_X7_makeShapes
  refine sm_aload_n (pc := 0) (n := 0) dX7_makeShapes_0 rfl ?_
  refine gf_X7_9 (pc := 1) rfl dX7_makeShapes_1 ?_
  refine sm_newI (pc := 4) dX7_makeShapes_4 wd_46 ?_
  refine sm_astore_n (pc := 6) (n := 1) dX7_makeShapes_6 rfl ?_
  refine sm_aload_n (pc := 7) (n := 1) dX7_makeShapes_7 rfl ?_
  refine sm_iconst (pc := 8) dX7_makeShapes_8 zc_i_0 ?_
  refine sm_aload_n (pc := 9) (n := 0) dX7_makeShapes_9 rfl ?_
  refine gf_X7_9 (pc := 10) rfl dX7_makeShapes_10 ?_
  refine sm_iastore (pc := 13) dX7_makeShapes_13 ?_
  refine sm_iconst (pc := 14) dX7_makeShapes_14 zc_i_1 ?_
  refine sm_istore_n (pc := 15) (n := 2) dX7_makeShapes_15 rfl ?_
  refine sm_iconst (pc := 16) dX7_makeShapes_16 zc_i_0 ?_
  refine sm_istore_n (pc := 17) (n := 3) dX7_makeShapes_17 rfl ?_
  exact sm_loop (fun r18 hr18 => slX7_makeShapes_18 P r18 hr18) _
noncomputable def f_X7_makeShapes {d : Nat} : List zV → zH d → zP d → Bool := zfn 4 b_X7_makeShapes
theorem m_X7_makeShapes {d : Nat} : zMet (d := d) X_X7_makeShapes yX7_makeShapes 11 f_X7_makeShapes := zmet_mk (X := X_X7_makeShapes) (by decide) rfl rfl s_X7_makeShapes

abbrev X_X7_leastMultiple : zM := (RX7, cX7_leastMultiple, 4, (some .int), "leastMultiple")
noncomputable def bX7_leastMultiple_25 {d : Nat} (P : zP d) : zK d := (xild 2 (xiret P))
set_option maxRecDepth 100000 in
set_option maxHeartbeats 4000000 in
theorem sbX7_leastMultiple_25 {d : Nat} [zGh] (P : zP d) : zSim X_X7_leastMultiple 1 P 25 (bX7_leastMultiple_25 P) := by
  unfold bX7_leastMultiple_25
  refine sm_iload_n (pc := 25) (n := 2) dX7_leastMultiple_25 rfl ?_
  exact sm_ireturn (pc := 26) dX7_leastMultiple_26 rfl
noncomputable def lX7_leastMultiple_4 {d : Nat} (P : zP d) (r4 : zK d) : zK d := (xild 3 (xild 1 (xjoin (bX7_leastMultiple_25 P) (fun j25 => (xcmp tge j25 (xild 2 (xild 1 (xbinN zrem (xif0 t0eq j25 (xild 2 (xild 0 (xbin zadd (xist 2 (xinc 3 1 r4))))))))))))))
set_option maxRecDepth 100000 in
set_option maxHeartbeats 4000000 in
theorem slX7_leastMultiple_4 {d : Nat} [zGh] (P : zP d) (r4 : zK d) (hr4 : zSim X_X7_leastMultiple 1 P 4 r4) : zSim X_X7_leastMultiple 1 P 4 (lX7_leastMultiple_4 P r4) := by
  unfold lX7_leastMultiple_4
  refine sm_iload_n (pc := 4) (n := 3) dX7_leastMultiple_4 rfl ?_
  refine sm_iload_n (pc := 5) (n := 1) dX7_leastMultiple_5 rfl ?_
  refine sm_join (pc := 6) (pc' := 25) (sbX7_leastMultiple_25 P) (fun j25 hj25 => ?_)
  refine sm_icmp_ge (pc := 6) (tgt := 25) dX7_leastMultiple_6 (by decide) ?_ ?_
  · skip
    exact hj25
  · skip
    refine sm_iload_n (pc := 9) (n := 2) dX7_leastMultiple_9 rfl ?_
    refine sm_iload_n (pc := 10) (n := 1) dX7_leastMultiple_10 rfl ?_
    refine sm_irem (pc := 11) dX7_leastMultiple_11 ?_
    refine sm_if_eq (pc := 12) (tgt := 25) dX7_leastMultiple_12 (by decide) ?_ ?_
    · skip
      exact hj25
    · skip
      refine sm_iload_n (pc := 15) (n := 2) dX7_leastMultiple_15 rfl ?_
      refine sm_iload_n (pc := 16) (n := 0) dX7_leastMultiple_16 rfl ?_
      refine sm_iadd (pc := 17) dX7_leastMultiple_17 ?_
      refine sm_istore_n (pc := 18) (n := 2) dX7_leastMultiple_18 rfl ?_
      refine sm_iinc (pc := 19) (n := 3) dX7_leastMultiple_19 zc_i_1 ?_
      refine sm_goto (pc := 22) (tgt := 4) dX7_leastMultiple_22 (by decide) ?_
      exact hr4
noncomputable def b_X7_leastMultiple {d : Nat} (P : zP d) : zK d := (xild 0 (xist 2 (xpI 1 (xist 3 (xloop (fun r4 => (lX7_leastMultiple_4 P r4)) 100000)))))
set_option maxRecDepth 100000 in
set_option maxHeartbeats 4000000 in
theorem s_X7_leastMultiple {d : Nat} [zGh] (P : zP d) : zSim X_X7_leastMultiple 1 P 0 (b_X7_leastMultiple P) := by
  unfold b_X7_leastMultiple
  refine sm_iload_n (pc := 0) (n := 0) dX7_leastMultiple_0 rfl ?_
  refine sm_istore_n (pc := 1) (n := 2) dX7_leastMultiple_1 rfl ?_
  refine sm_iconst (pc := 2) dX7_leastMultiple_2 zc_i_1 ?_
  refine sm_istore_n (pc := 3) (n := 3) dX7_leastMultiple_3 rfl ?_
  exact sm_loop (fun r4 hr4 => slX7_leastMultiple_4 P r4 hr4) _
noncomputable def f_X7_leastMultiple {d : Nat} : List zV → zH d → zP d → Bool := zfn 4 b_X7_leastMultiple
theorem m_X7_leastMultiple {d : Nat} : zMet (d := d) X_X7_leastMultiple yX7_leastMultiple 1 f_X7_leastMultiple := zmet_mk (X := X_X7_leastMultiple) (by decide) rfl rfl s_X7_leastMultiple

abbrev X_X7_describeClass : zM := (RX7, cX7_describeClass, 9, none, "describeClass")
noncomputable def bX7_describeClass_206 {d : Nat} (P : zP d) : zK d := (xast1 0 (fun v => v) (xvret P))
set_option maxRecDepth 100000 in
set_option maxHeartbeats 4000000 in
theorem sbX7_describeClass_206 {d : Nat} [zGh] (P : zP d) : zSim X_X7_describeClass 2 P 206 (bX7_describeClass_206 P) := by
  unfold bX7_describeClass_206
  refine sm_iastore (pc := 206) dX7_describeClass_206 ?_
  exact sm_vreturn (pc := 207) dX7_describeClass_207 rfl
noncomputable def lX7_describeClass_133 {d : Nat} (P : zP d) (r133 : zK d) (r35 : zK d) : zK d := (xild 8 (xild 7 (xcmp tge (xild 3 (xild 7 (xbin zadd (xist 3 (xinc 6 1 r35))))) (xald 0 (xgfR 23 10 (xild 1 (xaal (xild 3 (xild 8 (xbin zadd (xild 3 (xild 8 (xpI 1 (xbin zadd (xild 7 (xbinN zrem (xbin zadd (xast1 0 (fun v => v) (xinc 8 1 r133)))))))))))))))))))
set_option maxRecDepth 100000 in
set_option maxHeartbeats 4000000 in
theorem slX7_describeClass_133 {d : Nat} [zGh] (P : zP d) (r133 : zK d) (r35 : zK d) (hr133 : zSim X_X7_describeClass 2 P 133 r133) (hr35 : zSim X_X7_describeClass 2 P 35 r35) : zSim X_X7_describeClass 2 P 133 (lX7_describeClass_133 P r133 r35) := by
  unfold lX7_describeClass_133
  refine sm_iload (pc := 133) (n := 8) dX7_describeClass_133 ?_
  refine sm_iload (pc := 135) (n := 7) dX7_describeClass_135 ?_
  refine sm_icmp_ge (pc := 137) (tgt := 166) dX7_describeClass_137 (by decide) ?_ ?_
  · skip
    refine sm_iload_n (pc := 166) (n := 3) dX7_describeClass_166 rfl ?_
    refine sm_iload (pc := 167) (n := 7) dX7_describeClass_167 ?_
    refine sm_iadd (pc := 169) dX7_describeClass_169 ?_
    refine sm_istore_n (pc := 170) (n := 3) dX7_describeClass_170 rfl ?_
    refine sm_iinc (pc := 171) (n := 6) dX7_describeClass_171 zc_i_1 ?_
    refine sm_goto (pc := 174) (tgt := 35) dX7_describeClass_174 (by decide) ?_
    exact hr35
  · skip
    refine sm_aload_n (pc := 140) (n := 0) dX7_describeClass_140 rfl ?_
    refine gf_X7_58 (pc := 141) rfl dX7_describeClass_141 ?_
    refine sm_iload_n (pc := 144) (n := 1) dX7_describeClass_144 rfl ?_
    refine sm_aaload (pc := 145) dX7_describeClass_145 ?_
    refine sm_iload_n (pc := 146) (n := 3) dX7_describeClass_146 rfl ?_
    refine sm_iload (pc := 147) (n := 8) dX7_describeClass_147 ?_
    refine sm_iadd (pc := 149) dX7_describeClass_149 ?_
    refine sm_iload_n (pc := 150) (n := 3) dX7_describeClass_150 rfl ?_
    refine sm_iload (pc := 151) (n := 8) dX7_describeClass_151 ?_
    refine sm_iconst (pc := 153) dX7_describeClass_153 zc_i_1 ?_
    refine sm_iadd (pc := 154) dX7_describeClass_154 ?_
    refine sm_iload (pc := 155) (n := 7) dX7_describeClass_155 ?_
    refine sm_irem (pc := 157) dX7_describeClass_157 ?_
    refine sm_iadd (pc := 158) dX7_describeClass_158 ?_
    refine sm_iastore (pc := 159) dX7_describeClass_159 ?_
    refine sm_iinc (pc := 160) (n := 8) dX7_describeClass_160 zc_i_1 ?_
    refine sm_goto (pc := 163) (tgt := 133) dX7_describeClass_163 (by decide) ?_
    exact hr133
noncomputable def bX7_describeClass_129 {d : Nat} (P : zP d) (r35 : zK d) : zK d := (xast1 0 (fun v => v) (xpI 0 (xist 8 (xloop (fun r133 => (lX7_describeClass_133 P r133 r35)) 100000))))
set_option maxRecDepth 100000 in
set_option maxHeartbeats 4000000 in
theorem sbX7_describeClass_129 {d : Nat} [zGh] (P : zP d) (r35 : zK d) (hr35 : zSim X_X7_describeClass 2 P 35 r35) : zSim X_X7_describeClass 2 P 129 (bX7_describeClass_129 P r35) := by
  unfold bX7_describeClass_129
  refine sm_iastore (pc := 129) dX7_describeClass_129 ?_
  refine sm_iconst (pc := 130) dX7_describeClass_130 zc_i_0 ?_
  refine sm_istore (pc := 131) (n := 8) dX7_describeClass_131 ?_
  exact sm_loop (fun r133 hr133 => slX7_describeClass_133 P r133 r35 hr133 hr35) _
noncomputable def cX7_describeClass_123 {d : Nat} (P : zP d) (j129 : zK d) : zK d := (xald 0 (xgfR 23 7 (xild 1 (xald1 0 j129))))
set_option maxRecDepth 100000 in
set_option maxHeartbeats 4000000 in
theorem scX7_describeClass_123 {d : Nat} [zGh] (P : zP d) (j129 : zK d) (hj129 : zSim X_X7_describeClass 2 P 129 j129) : zSim X_X7_describeClass 2 P 123 (cX7_describeClass_123 P j129) := by
  unfold cX7_describeClass_123
  refine sm_aload_n (pc := 123) (n := 0) dX7_describeClass_123 rfl ?_
  refine gf_X7_47 (pc := 124) rfl dX7_describeClass_124 ?_
  refine sm_iload_n (pc := 127) (n := 1) dX7_describeClass_127 rfl ?_
  refine sm_iaload (pc := 128) dX7_describeClass_128 ?_
  exact hj129
noncomputable def cX7_describeClass_113 {d : Nat} (P : zP d) (j129 : zK d) : zK d := (xald 0 (xgfR 23 7 (xild 1 (xald1 0 (xun zneg j129)))))
set_option maxRecDepth 100000 in
set_option maxHeartbeats 4000000 in
theorem scX7_describeClass_113 {d : Nat} [zGh] (P : zP d) (j129 : zK d) (hj129 : zSim X_X7_describeClass 2 P 129 j129) : zSim X_X7_describeClass 2 P 113 (cX7_describeClass_113 P j129) := by
  unfold cX7_describeClass_113
  refine sm_aload_n (pc := 113) (n := 0) dX7_describeClass_113 rfl ?_
  refine gf_X7_47 (pc := 114) rfl dX7_describeClass_114 ?_
  refine sm_iload_n (pc := 117) (n := 1) dX7_describeClass_117 rfl ?_
  refine sm_iaload (pc := 118) dX7_describeClass_118 ?_
  refine sm_ineg (pc := 119) dX7_describeClass_119 ?_
  refine sm_goto (pc := 120) (tgt := 129) dX7_describeClass_120 (by decide) ?_
  exact hj129
noncomputable def bX7_describeClass_72 {d : Nat} (P : zP d) (r35 : zK d) : zK d := (xist 4 (xild 5 (xild 7 (xild 4 (xbin zmul (xbin zmul (xist 5 (xald 0 (xgfR 23 6 (xild 1 (xald 0 (xgfR 23 6 (xild 1 (xald1 0 (xild 7 (xcS 2 0 0 f_X7_leastMultiple (xast1 0 (fun v => v) (xald 0 (xgfR 23 7 (xild 1 (xild 7 (xpI 2 (xbinN zrem (xjoin (bX7_describeClass_129 P r35) (fun j129 => (xif0 t0eq (cX7_describeClass_113 P j129) (cX7_describeClass_123 P j129)))))))))))))))))))))))))))
set_option maxRecDepth 100000 in
set_option maxHeartbeats 4000000 in
theorem sbX7_describeClass_72 {d : Nat} [zGh] (P : zP d) (r35 : zK d) (hr35 : zSim X_X7_describeClass 2 P 35 r35) : zSim X_X7_describeClass 2 P 72 (bX7_describeClass_72 P r35) := by
  unfold bX7_describeClass_72
  refine sm_istore (pc := 72) (n := 4) dX7_describeClass_72 ?_
  refine sm_iload (pc := 74) (n := 5) dX7_describeClass_74 ?_
  refine sm_iload (pc := 76) (n := 7) dX7_describeClass_76 ?_
  refine sm_iload (pc := 78) (n := 4) dX7_describeClass_78 ?_
  refine sm_imul (pc := 80) dX7_describeClass_80 ?_
  refine sm_imul (pc := 81) dX7_describeClass_81 ?_
  refine sm_istore (pc := 82) (n := 5) dX7_describeClass_82 ?_
  refine sm_aload_n (pc := 84) (n := 0) dX7_describeClass_84 rfl ?_
  refine gf_X7_44 (pc := 85) rfl dX7_describeClass_85 ?_
  refine sm_iload_n (pc := 88) (n := 1) dX7_describeClass_88 rfl ?_
  refine sm_aload_n (pc := 89) (n := 0) dX7_describeClass_89 rfl ?_
  refine gf_X7_44 (pc := 90) rfl dX7_describeClass_90 ?_
  refine sm_iload_n (pc := 93) (n := 1) dX7_describeClass_93 rfl ?_
  refine sm_iaload (pc := 94) dX7_describeClass_94 ?_
  refine sm_iload (pc := 95) (n := 7) dX7_describeClass_95 ?_
  refine sm_cS (pc := 97) (n := 2) (mc := 0) (ms := 0) m_X7_leastMultiple (cr_X7_113 (X := X_X7_describeClass) (fr := 2) (frc := 1) (pc := 97) (mc := 0) (ms := 0) rfl (by decide) dX7_describeClass_97) ?_
  refine sm_iastore (pc := 100) dX7_describeClass_100 ?_
  refine sm_aload_n (pc := 101) (n := 0) dX7_describeClass_101 rfl ?_
  refine gf_X7_47 (pc := 102) rfl dX7_describeClass_102 ?_
  refine sm_iload_n (pc := 105) (n := 1) dX7_describeClass_105 rfl ?_
  refine sm_iload (pc := 106) (n := 7) dX7_describeClass_106 ?_
  refine sm_iconst (pc := 108) dX7_describeClass_108 zc_i_2 ?_
  refine sm_irem (pc := 109) dX7_describeClass_109 ?_
  refine sm_join (pc := 110) (pc' := 129) (sbX7_describeClass_129 P r35 hr35) (fun j129 hj129 => ?_)
  refine sm_if_ne (pc := 110) (tgt := 123) dX7_describeClass_110 (by decide) ?_ ?_
  · skip
    exact scX7_describeClass_123 P j129 hj129
  · skip
    exact scX7_describeClass_113 P j129 hj129
noncomputable def bX7_describeClass_71 {d : Nat} (P : zP d) (j72 : zK d) : zK d := (xpI 1 j72)
set_option maxRecDepth 100000 in
set_option maxHeartbeats 4000000 in
theorem sbX7_describeClass_71 {d : Nat} [zGh] (P : zP d) (j72 : zK d) (hj72 : zSim X_X7_describeClass 2 P 72 j72) : zSim X_X7_describeClass 2 P 71 (bX7_describeClass_71 P j72) := by
  unfold bX7_describeClass_71
  refine sm_iconst (pc := 71) dX7_describeClass_71 zc_i_1 ?_
  exact hj72
noncomputable def lX7_describeClass_35 {d : Nat} (P : zP d) (r35 : zK d) : zK d := (xild 6 (xald 2 (xlen (xcmp tge (xald 0 (xgfR 23 8 (xild 1 (xild 5 (xast1 0 (fun v => v) (xald 0 (xgfR 23 5 (xild 1 (xild 5 (xjoin (bX7_describeClass_206 P) (fun j206 => (xif0 t0le (xpI 0 j206) (xald 0 (xgfI 23 2 (xild 5 (xbinN zdiv j206)))))))))))))))) (xald 2 (xild 6 (xald1 0 (xist 7 (xild 6 (xjoin (bX7_describeClass_72 P r35) (fun j72 => (xjoin (bX7_describeClass_71 P j72) (fun j71 => (xif0 t0le j71 (xald 2 (xild 6 (xpI 1 (xbin zsub (xald1 0 (xild 7 (xcmp Nat.beq (xild 4 (xpI 1 (xbin zadd j72))) j71)))))))))))))))))))))
set_option maxRecDepth 100000 in
set_option maxHeartbeats 4000000 in
theorem slX7_describeClass_35 {d : Nat} [zGh] (P : zP d) (r35 : zK d) (hr35 : zSim X_X7_describeClass 2 P 35 r35) : zSim X_X7_describeClass 2 P 35 (lX7_describeClass_35 P r35) := by
  unfold lX7_describeClass_35
  refine sm_iload (pc := 35) (n := 6) dX7_describeClass_35 ?_
  refine sm_aload_n (pc := 37) (n := 2) dX7_describeClass_37 rfl ?_
  refine sm_arraylength (pc := 38) dX7_describeClass_38 ?_
  refine sm_icmp_ge (pc := 39) (tgt := 177) dX7_describeClass_39 (by decide) ?_ ?_
  · skip
    refine sm_aload_n (pc := 177) (n := 0) dX7_describeClass_177 rfl ?_
    refine gf_X7_50 (pc := 178) rfl dX7_describeClass_178 ?_
    refine sm_iload_n (pc := 181) (n := 1) dX7_describeClass_181 rfl ?_
    refine sm_iload (pc := 182) (n := 5) dX7_describeClass_182 ?_
    refine sm_iastore (pc := 184) dX7_describeClass_184 ?_
    refine sm_aload_n (pc := 185) (n := 0) dX7_describeClass_185 rfl ?_
    refine gf_X7_41 (pc := 186) rfl dX7_describeClass_186 ?_
    refine sm_iload_n (pc := 189) (n := 1) dX7_describeClass_189 rfl ?_
    refine sm_iload (pc := 190) (n := 5) dX7_describeClass_190 ?_
    refine sm_join (pc := 192) (pc' := 206) (sbX7_describeClass_206 P) (fun j206 hj206 => ?_)
    refine sm_if_le (pc := 192) (tgt := 205) dX7_describeClass_192 (by decide) ?_ ?_
    · skip
      refine sm_iconst (pc := 205) dX7_describeClass_205 zc_i_0 ?_
      exact hj206
    · skip
      refine sm_aload_n (pc := 195) (n := 0) dX7_describeClass_195 rfl ?_
      refine gf_X7_35 (pc := 196) rfl dX7_describeClass_196 ?_
      refine sm_iload (pc := 199) (n := 5) dX7_describeClass_199 ?_
      refine sm_idiv (pc := 201) dX7_describeClass_201 ?_
      refine sm_goto (pc := 202) (tgt := 206) dX7_describeClass_202 (by decide) ?_
      exact hj206
  · skip
    refine sm_aload_n (pc := 42) (n := 2) dX7_describeClass_42 rfl ?_
    refine sm_iload (pc := 43) (n := 6) dX7_describeClass_43 ?_
    refine sm_iaload (pc := 45) dX7_describeClass_45 ?_
    refine sm_istore (pc := 46) (n := 7) dX7_describeClass_46 ?_
    refine sm_iload (pc := 48) (n := 6) dX7_describeClass_48 ?_
    refine sm_join (pc := 50) (pc' := 72) (sbX7_describeClass_72 P r35 hr35) (fun j72 hj72 => ?_)
    refine sm_join (pc := 50) (pc' := 71) (sbX7_describeClass_71 P j72 hj72) (fun j71 hj71 => ?_)
    refine sm_if_le (pc := 50) (tgt := 71) dX7_describeClass_50 (by decide) ?_ ?_
    · skip
      exact hj71
    · skip
      refine sm_aload_n (pc := 53) (n := 2) dX7_describeClass_53 rfl ?_
      refine sm_iload (pc := 54) (n := 6) dX7_describeClass_54 ?_
      refine sm_iconst (pc := 56) dX7_describeClass_56 zc_i_1 ?_
      refine sm_isub (pc := 57) dX7_describeClass_57 ?_
      refine sm_iaload (pc := 58) dX7_describeClass_58 ?_
      refine sm_iload (pc := 59) (n := 7) dX7_describeClass_59 ?_
      refine sm_icmp_ne (pc := 61) (tgt := 71) dX7_describeClass_61 (by decide) ?_ ?_
      · skip
        exact hj71
      · skip
        refine sm_iload (pc := 64) (n := 4) dX7_describeClass_64 ?_
        refine sm_iconst (pc := 66) dX7_describeClass_66 zc_i_1 ?_
        refine sm_iadd (pc := 67) dX7_describeClass_67 ?_
        refine sm_goto (pc := 68) (tgt := 72) dX7_describeClass_68 (by decide) ?_
        exact hj72
noncomputable def b_X7_describeClass {d : Nat} (P : zP d) : zK d := (xald 0 (xgfR 23 3 (xild 1 (xaal (xgfR 20 2 (xast 2 (xpI 1 (xist 3 (xpI 0 (xist 4 (xpI 1 (xist 5 (xald 0 (xgfR 23 6 (xild 1 (xpI 1 (xast1 0 (fun v => v) (xald 0 (xgfR 23 7 (xild 1 (xpI 1 (xast1 0 (fun v => v) (xpI 0 (xist 6 (xloop (fun r35 => (lX7_describeClass_35 P r35)) 100000)))))))))))))))))))))))))
set_option maxRecDepth 100000 in
set_option maxHeartbeats 4000000 in
theorem s_X7_describeClass {d : Nat} [zGh] (P : zP d) : zSim X_X7_describeClass 2 P 0 (b_X7_describeClass P) := by
  unfold b_X7_describeClass
  refine sm_aload_n (pc := 0) (n := 0) dX7_describeClass_0 rfl ?_
  refine gf_X7_24 (pc := 1) rfl dX7_describeClass_1 ?_
  refine sm_iload_n (pc := 4) (n := 1) dX7_describeClass_4 rfl ?_
  refine sm_aaload (pc := 5) dX7_describeClass_5 ?_
  refine gf_X7_98 (pc := 6) rfl dX7_describeClass_6 ?_
  refine sm_astore_n (pc := 9) (n := 2) dX7_describeClass_9 rfl ?_
  refine sm_iconst (pc := 10) dX7_describeClass_10 zc_i_1 ?_
  refine sm_istore_n (pc := 11) (n := 3) dX7_describeClass_11 rfl ?_
  refine sm_iconst (pc := 12) dX7_describeClass_12 zc_i_0 ?_
  refine sm_istore (pc := 13) (n := 4) dX7_describeClass_13 ?_
  refine sm_iconst (pc := 15) dX7_describeClass_15 zc_i_1 ?_
  refine sm_istore (pc := 16) (n := 5) dX7_describeClass_16 ?_
  refine sm_aload_n (pc := 18) (n := 0) dX7_describeClass_18 rfl ?_
  refine gf_X7_44 (pc := 19) rfl dX7_describeClass_19 ?_
  refine sm_iload_n (pc := 22) (n := 1) dX7_describeClass_22 rfl ?_
  refine sm_iconst (pc := 23) dX7_describeClass_23 zc_i_1 ?_
  refine sm_iastore (pc := 24) dX7_describeClass_24 ?_
  refine sm_aload_n (pc := 25) (n := 0) dX7_describeClass_25 rfl ?_
  refine gf_X7_47 (pc := 26) rfl dX7_describeClass_26 ?_
  refine sm_iload_n (pc := 29) (n := 1) dX7_describeClass_29 rfl ?_
  refine sm_iconst (pc := 30) dX7_describeClass_30 zc_i_1 ?_
  refine sm_iastore (pc := 31) dX7_describeClass_31 ?_
  refine sm_iconst (pc := 32) dX7_describeClass_32 zc_i_0 ?_
  refine sm_istore (pc := 33) (n := 6) dX7_describeClass_33 ?_
  exact sm_loop (fun r35 hr35 => slX7_describeClass_35 P r35 hr35) _
noncomputable def f_X7_describeClass {d : Nat} : List zV → zH d → zP d → Bool := zfn 9 b_X7_describeClass
theorem m_X7_describeClass {d : Nat} : zMet (d := d) X_X7_describeClass yX7_describeClass 2 f_X7_describeClass := zmet_mk (X := X_X7_describeClass) (by decide) rfl rfl s_X7_describeClass

abbrev X_X7_raise : zM := (RX7, cX7_raise, 9, (some .int), "raise")
noncomputable def bX7_raise_84 {d : Nat} (P : zP d) (r17 : zK d) : zK d := (xinc 6 1 r17)
set_option maxRecDepth 100000 in
set_option maxHeartbeats 4000000 in
theorem sbX7_raise_84 {d : Nat} [zGh] (P : zP d) (r17 : zK d) (hr17 : zSim X_X7_raise 2 P 17 r17) : zSim X_X7_raise 2 P 84 (bX7_raise_84 P r17) := by
  unfold bX7_raise_84
  refine sm_iinc (pc := 84) (n := 6) dX7_raise_84 zc_i_1 ?_
  refine sm_goto (pc := 87) (tgt := 17) dX7_raise_87 (by decide) ?_
  exact hr17
noncomputable def lX7_raise_55 {d : Nat} (P : zP d) (j84 : zK d) (r55 : zK d) : zK d := (xild 8 (xild 7 (xcmp tge j84 (xild 4 (xald 3 (xlen (xcmp tge j84 (xald 3 (xild 4 (xild 5 (xast1 0 (fun v => v) (xinc 4 1 (xinc 8 1 r55)))))))))))))
set_option maxRecDepth 100000 in
set_option maxHeartbeats 4000000 in
theorem slX7_raise_55 {d : Nat} [zGh] (P : zP d) (j84 : zK d) (r55 : zK d) (hj84 : zSim X_X7_raise 2 P 84 j84) (hr55 : zSim X_X7_raise 2 P 55 r55) : zSim X_X7_raise 2 P 55 (lX7_raise_55 P j84 r55) := by
  unfold lX7_raise_55
  refine sm_iload (pc := 55) (n := 8) dX7_raise_55 ?_
  refine sm_iload (pc := 57) (n := 7) dX7_raise_57 ?_
  refine sm_icmp_ge (pc := 59) (tgt := 84) dX7_raise_59 (by decide) ?_ ?_
  · skip
    exact hj84
  · skip
    refine sm_iload (pc := 62) (n := 4) dX7_raise_62 ?_
    refine sm_aload_n (pc := 64) (n := 3) dX7_raise_64 rfl ?_
    refine sm_arraylength (pc := 65) dX7_raise_65 ?_
    refine sm_icmp_ge (pc := 66) (tgt := 84) dX7_raise_66 (by decide) ?_ ?_
    · skip
      exact hj84
    · skip
      refine sm_aload_n (pc := 69) (n := 3) dX7_raise_69 rfl ?_
      refine sm_iload (pc := 70) (n := 4) dX7_raise_70 ?_
      refine sm_iload (pc := 72) (n := 5) dX7_raise_72 ?_
      refine sm_iastore (pc := 74) dX7_raise_74 ?_
      refine sm_iinc (pc := 75) (n := 4) dX7_raise_75 zc_i_1 ?_
      refine sm_iinc (pc := 78) (n := 8) dX7_raise_78 zc_i_1 ?_
      refine sm_goto (pc := 81) (tgt := 55) dX7_raise_81 (by decide) ?_
      exact hr55
noncomputable def lX7_raise_17 {d : Nat} (P : zP d) (r17 : zK d) (r9 : zK d) : zK d := (xild 6 (xald 1 (xlen (xcmp tge (xinc 5 4294967295 r9) (xald 1 (xild 6 (xald1 0 (xi2l (xild 2 (xi2l (xcS 2 0 0 f_X8_greatestDivisor (xl2i (xist 7 (xild 7 (xild 5 (xbin zmul (xald 1 (xild 6 (xald1 0 (xjoin (bX7_raise_84 P r17) (fun j84 => (xcmp Nat.beq (xpI 0 (xist 8 (xloop (fun r55 => (lX7_raise_55 P j84 r55)) 100000))) j84))))))))))))))))))))))
set_option maxRecDepth 100000 in
set_option maxHeartbeats 4000000 in
theorem slX7_raise_17 {d : Nat} [zGh] (P : zP d) (r17 : zK d) (r9 : zK d) (hr17 : zSim X_X7_raise 2 P 17 r17) (hr9 : zSim X_X7_raise 2 P 9 r9) : zSim X_X7_raise 2 P 17 (lX7_raise_17 P r17 r9) := by
  unfold lX7_raise_17
  refine sm_iload (pc := 17) (n := 6) dX7_raise_17 ?_
  refine sm_aload_n (pc := 19) (n := 1) dX7_raise_19 rfl ?_
  refine sm_arraylength (pc := 20) dX7_raise_20 ?_
  refine sm_icmp_ge (pc := 21) (tgt := 90) dX7_raise_21 (by decide) ?_ ?_
  · skip
    refine sm_iinc (pc := 90) (n := 5) dX7_raise_90 zc_i_m1 ?_
    refine sm_goto (pc := 93) (tgt := 9) dX7_raise_93 (by decide) ?_
    exact hr9
  · skip
    refine sm_aload_n (pc := 24) (n := 1) dX7_raise_24 rfl ?_
    refine sm_iload (pc := 25) (n := 6) dX7_raise_25 ?_
    refine sm_iaload (pc := 27) dX7_raise_27 ?_
    refine sm_i2l (pc := 28) dX7_raise_28 ?_
    refine sm_iload_n (pc := 29) (n := 2) dX7_raise_29 rfl ?_
    refine sm_i2l (pc := 30) dX7_raise_30 ?_
    refine sm_cS (pc := 31) (n := 2) (mc := 0) (ms := 0) m_X8_greatestDivisor (cr_X7_120 (X := X_X7_raise) (fr := 2) (frc := 1) (pc := 31) (mc := 0) (ms := 0) rfl (by decide) dX7_raise_31) ?_
    refine sm_l2i (pc := 34) dX7_raise_34 ?_
    refine sm_istore (pc := 35) (n := 7) dX7_raise_35 ?_
    refine sm_iload (pc := 37) (n := 7) dX7_raise_37 ?_
    refine sm_iload (pc := 39) (n := 5) dX7_raise_39 ?_
    refine sm_imul (pc := 41) dX7_raise_41 ?_
    refine sm_aload_n (pc := 42) (n := 1) dX7_raise_42 rfl ?_
    refine sm_iload (pc := 43) (n := 6) dX7_raise_43 ?_
    refine sm_iaload (pc := 45) dX7_raise_45 ?_
    refine sm_join (pc := 46) (pc' := 84) (sbX7_raise_84 P r17 hr17) (fun j84 hj84 => ?_)
    refine sm_icmp_eq (pc := 46) (tgt := 52) dX7_raise_46 (by decide) ?_ ?_
    · skip
      refine sm_iconst (pc := 52) dX7_raise_52 zc_i_0 ?_
      refine sm_istore (pc := 53) (n := 8) dX7_raise_53 ?_
      exact sm_loop (fun r55 hr55 => slX7_raise_55 P j84 r55 hj84 hr55) _
    · skip
      refine sm_goto (pc := 49) (tgt := 84) dX7_raise_49 (by decide) ?_
      exact hj84
noncomputable def lX7_raise_9 {d : Nat} (P : zP d) (r9 : zK d) : zK d := (xild 5 (xif0 t0le (xild 4 (xiret P)) (xpI 0 (xist 6 (xloop (fun r17 => (lX7_raise_17 P r17 r9)) 100000)))))
set_option maxRecDepth 100000 in
set_option maxHeartbeats 4000000 in
theorem slX7_raise_9 {d : Nat} [zGh] (P : zP d) (r9 : zK d) (hr9 : zSim X_X7_raise 2 P 9 r9) : zSim X_X7_raise 2 P 9 (lX7_raise_9 P r9) := by
  unfold lX7_raise_9
  refine sm_iload (pc := 9) (n := 5) dX7_raise_9 ?_
  refine sm_if_le (pc := 11) (tgt := 96) dX7_raise_11 (by decide) ?_ ?_
  · skip
    refine sm_iload (pc := 96) (n := 4) dX7_raise_96 ?_
    exact sm_ireturn (pc := 98) dX7_raise_98 rfl
  · skip
    refine sm_iconst (pc := 14) dX7_raise_14 zc_i_0 ?_
    refine sm_istore (pc := 15) (n := 6) dX7_raise_15 ?_
    exact sm_loop (fun r17 hr17 => slX7_raise_17 P r17 r9 hr17 hr9) _
noncomputable def b_X7_raise {d : Nat} (P : zP d) : zK d := (xpI 0 (xist 4 (xald 0 (xgfI 23 0 (xist 5 (xloop (fun r9 => (lX7_raise_9 P r9)) 100000))))))
set_option maxRecDepth 100000 in
set_option maxHeartbeats 4000000 in
theorem s_X7_raise {d : Nat} [zGh] (P : zP d) : zSim X_X7_raise 2 P 0 (b_X7_raise P) := by
  unfold b_X7_raise
  refine sm_iconst (pc := 0) dX7_raise_0 zc_i_0 ?_
  refine sm_istore (pc := 1) (n := 4) dX7_raise_1 ?_
  refine sm_aload_n (pc := 3) (n := 0) dX7_raise_3 rfl ?_
  refine gf_X7_9 (pc := 4) rfl dX7_raise_4 ?_
  refine sm_istore (pc := 7) (n := 5) dX7_raise_7 ?_
  exact sm_loop (fun r9 hr9 => slX7_raise_9 P r9 hr9) _
noncomputable def f_X7_raise {d : Nat} : List zV → zH d → zP d → Bool := zfn 9 b_X7_raise
theorem m_X7_raise {d : Nat} : zMet (d := d) X_X7_raise yX7_raise 2 f_X7_raise := zmet_mk (X := X_X7_raise) (by decide) rfl rfl s_X7_raise

abbrev X_X7_makePowers : zM := (RX7, cX7_makePowers, 4, none, "makePowers")
noncomputable def lX7_makePowers_19 {d : Nat} (P : zP d) (r19 : zK d) (r9 : zK d) : zK d := (xild 3 (xpI 6 (xcmp tle (xald 0 (xgfR 23 9 (xild 2 (xaal (xild 3 (xald 0 (xald 1 (xald 0 (xald 0 (xgfR 23 3 (xild 2 (xaal (xgfR 20 2 (xild 3 (xald 1 (xcV 23 4 0 0 f_X7_raise (xcV 23 3 0 0 f_X7_numberOf (xast1 0 (fun v => v) (xinc 3 1 r19))))))))))))))))))) (xinc 2 1 r9))))
set_option maxRecDepth 100000 in
set_option maxHeartbeats 4000000 in
theorem slX7_makePowers_19 {d : Nat} [zGh] (P : zP d) (r19 : zK d) (r9 : zK d) (hr19 : zSim X_X7_makePowers 3 P 19 r19) (hr9 : zSim X_X7_makePowers 3 P 9 r9) : zSim X_X7_makePowers 3 P 19 (lX7_makePowers_19 P r19 r9) := by
  unfold lX7_makePowers_19
  refine sm_iload_n (pc := 19) (n := 3) dX7_makePowers_19 rfl ?_
  refine sm_bipush (pc := 20) dX7_makePowers_20 zc_b_6 ?_
  refine sm_icmp_gt (pc := 22) (tgt := 59) dX7_makePowers_22 (by decide) ?_ ?_
  · skip
    refine sm_iinc (pc := 59) (n := 2) dX7_makePowers_59 zc_i_1 ?_
    refine sm_goto (pc := 62) (tgt := 9) dX7_makePowers_62 (by decide) ?_
    exact hr9
  · skip
    refine sm_aload_n (pc := 25) (n := 0) dX7_makePowers_25 rfl ?_
    refine gf_X7_55 (pc := 26) rfl dX7_makePowers_26 ?_
    refine sm_iload_n (pc := 29) (n := 2) dX7_makePowers_29 rfl ?_
    refine sm_aaload (pc := 30) dX7_makePowers_30 ?_
    refine sm_iload_n (pc := 31) (n := 3) dX7_makePowers_31 rfl ?_
    refine sm_aload_n (pc := 32) (n := 0) dX7_makePowers_32 rfl ?_
    refine sm_aload_n (pc := 33) (n := 1) dX7_makePowers_33 rfl ?_
    refine sm_aload_n (pc := 34) (n := 0) dX7_makePowers_34 rfl ?_
    refine sm_aload_n (pc := 35) (n := 0) dX7_makePowers_35 rfl ?_
    refine gf_X7_24 (pc := 36) rfl dX7_makePowers_36 ?_
    refine sm_iload_n (pc := 39) (n := 2) dX7_makePowers_39 rfl ?_
    refine sm_aaload (pc := 40) dX7_makePowers_40 ?_
    refine gf_X7_98 (pc := 41) rfl dX7_makePowers_41 ?_
    refine sm_iload_n (pc := 44) (n := 3) dX7_makePowers_44 rfl ?_
    refine sm_aload_n (pc := 45) (n := 1) dX7_makePowers_45 rfl ?_
    refine sm_cV (pc := 46) (ci := 7) (n := 4) (mc := 0) (ms := 0) rfl m_X7_raise (cr_X7_116 (X := X_X7_makePowers) (fr := 3) (frc := 2) (pc := 46) (mc := 0) (ms := 0) rfl (by decide) dX7_makePowers_46) ?_
    refine sm_cV (pc := 49) (ci := 7) (n := 3) (mc := 0) (ms := 0) rfl m_X7_numberOf (cr_X7_74 (X := X_X7_makePowers) (fr := 3) (frc := 1) (pc := 49) (mc := 0) (ms := 0) rfl (by decide) dX7_makePowers_49) ?_
    refine sm_iastore (pc := 52) dX7_makePowers_52 ?_
    refine sm_iinc (pc := 53) (n := 3) dX7_makePowers_53 zc_i_1 ?_
    refine sm_goto (pc := 56) (tgt := 19) dX7_makePowers_56 (by decide) ?_
    exact hr19
noncomputable def lX7_makePowers_9 {d : Nat} (P : zP d) (r9 : zK d) : zK d := (xild 2 (xald 0 (xgfI 23 1 (xcmp tge (xvret P) (xpI 1 (xist 3 (xloop (fun r19 => (lX7_makePowers_19 P r19 r9)) 100000)))))))
set_option maxRecDepth 100000 in
set_option maxHeartbeats 4000000 in
theorem slX7_makePowers_9 {d : Nat} [zGh] (P : zP d) (r9 : zK d) (hr9 : zSim X_X7_makePowers 3 P 9 r9) : zSim X_X7_makePowers 3 P 9 (lX7_makePowers_9 P r9) := by
  unfold lX7_makePowers_9
  refine sm_iload_n (pc := 9) (n := 2) dX7_makePowers_9 rfl ?_
  refine sm_aload_n (pc := 10) (n := 0) dX7_makePowers_10 rfl ?_
  refine gf_X7_19 (pc := 11) rfl dX7_makePowers_11 ?_
  refine sm_icmp_ge (pc := 14) (tgt := 65) dX7_makePowers_14 (by decide) ?_ ?_
  · skip
    exact sm_vreturn (pc := 65) dX7_makePowers_65 rfl
  · skip
    refine sm_iconst (pc := 17) dX7_makePowers_17 zc_i_1 ?_
    refine sm_istore_n (pc := 18) (n := 3) dX7_makePowers_18 rfl ?_
    exact sm_loop (fun r19 hr19 => slX7_makePowers_19 P r19 r9 hr19 hr9) _
noncomputable def b_X7_makePowers {d : Nat} (P : zP d) : zK d := (xald 0 (xgfI 23 0 (xnwa 0 (xast 1 (xpI 0 (xist 2 (xloop (fun r9 => (lX7_makePowers_9 P r9)) 100000)))))))
set_option maxRecDepth 100000 in
set_option maxHeartbeats 4000000 in
theorem s_X7_makePowers {d : Nat} [zGh] (P : zP d) : zSim X_X7_makePowers 3 P 0 (b_X7_makePowers P) := by
  unfold b_X7_makePowers
  refine sm_aload_n (pc := 0) (n := 0) dX7_makePowers_0 rfl ?_
  refine gf_X7_9 (pc := 1) rfl dX7_makePowers_1 ?_
  refine sm_newI (pc := 4) dX7_makePowers_4 wd_46 ?_
  refine sm_astore_n (pc := 6) (n := 1) dX7_makePowers_6 rfl ?_
  refine sm_iconst (pc := 7) dX7_makePowers_7 zc_i_0 ?_
  refine sm_istore_n (pc := 8) (n := 2) dX7_makePowers_8 rfl ?_
  exact sm_loop (fun r9 hr9 => slX7_makePowers_9 P r9 hr9) _
noncomputable def f_X7_makePowers {d : Nat} : List zV → zH d → zP d → Bool := zfn 4 b_X7_makePowers
theorem m_X7_makePowers {d : Nat} : zMet (d := d) X_X7_makePowers yX7_makePowers 3 f_X7_makePowers := zmet_mk (X := X_X7_makePowers) (by decide) rfl rfl s_X7_makePowers

abbrev X_X7_placings : zM := (RX7, cX7_placings, 6, (some .int), "placings")
noncomputable def bX7_placings_63 {d : Nat} (self : List zV → zH d → zP d → Bool) (P : zP d) (r18 : zK d) : zK d := (xinc 5 1 r18)
set_option maxRecDepth 100000 in
set_option maxHeartbeats 4000000 in
theorem sbX7_placings_63 {d : Nat} [zGh] (n : Nat) (self : List zV → zH d → zP d → Bool) (hself : zMet X_X7_placings yX7_placings (1 + n) self) (P : zP d) (r18 : zK d) (hr18 : zSim X_X7_placings (1 + (n + 1)) P 18 r18) : zSim X_X7_placings (1 + (n + 1)) P 63 (bX7_placings_63 self P r18) := by
  unfold bX7_placings_63
  refine sm_iinc (pc := 63) (n := 5) dX7_placings_63 zc_i_1 ?_
  refine sm_goto (pc := 66) (tgt := 18) dX7_placings_66 (by decide) ?_
  exact hr18
noncomputable def cX7_placings_53 {d : Nat} (self : List zV → zH d → zP d → Bool) (P : zP d) (j63 : zK d) : zK d := (xist 3 (xald 2 (xild 5 (xdup2 (xald1 0 (xild 4 (xbin zadd (xast1 0 (fun v => v) j63))))))))
set_option maxRecDepth 100000 in
set_option maxHeartbeats 4000000 in
theorem scX7_placings_53 {d : Nat} [zGh] (n : Nat) (self : List zV → zH d → zP d → Bool) (hself : zMet X_X7_placings yX7_placings (1 + n) self) (P : zP d) (j63 : zK d) (hj63 : zSim X_X7_placings (1 + (n + 1)) P 63 j63) : zSim X_X7_placings (1 + (n + 1)) P 53 (cX7_placings_53 self P j63) := by
  unfold cX7_placings_53
  refine sm_istore_n (pc := 53) (n := 3) dX7_placings_53 rfl ?_
  refine sm_aload_n (pc := 54) (n := 2) dX7_placings_54 rfl ?_
  refine sm_iload (pc := 55) (n := 5) dX7_placings_55 ?_
  refine sm_dup2 (pc := 57) dX7_placings_57 ?_
  refine sm_iaload (pc := 58) dX7_placings_58 ?_
  refine sm_iload (pc := 59) (n := 4) dX7_placings_59 ?_
  refine sm_iadd (pc := 61) dX7_placings_61 ?_
  refine sm_iastore (pc := 62) dX7_placings_62 ?_
  exact hj63
noncomputable def lX7_placings_18 {d : Nat} (self : List zV → zH d → zP d → Bool) (P : zP d) (r18 : zK d) : zK d := (xild 5 (xald 2 (xlen (xcmp tge (xild 3 (xiret P)) (xald 2 (xild 5 (xald1 0 (xild 4 (xjoin (bX7_placings_63 self P r18) (fun j63 => (xcmp tge (xald 2 (xild 5 (xdup2 (xald1 0 (xild 4 (xbin zsub (xast1 0 (fun v => v) (xild 3 (xald 0 (xild 1 (xpI 1 (xbin zadd (xald 2 (xcS 3 0 0 self (xbin zadd (cX7_placings_53 self P j63)))))))))))))))) j63)))))))))))
set_option maxRecDepth 100000 in
set_option maxHeartbeats 4000000 in
theorem slX7_placings_18 {d : Nat} [zGh] (n : Nat) (self : List zV → zH d → zP d → Bool) (hself : zMet X_X7_placings yX7_placings (1 + n) self) (P : zP d) (r18 : zK d) (hr18 : zSim X_X7_placings (1 + (n + 1)) P 18 r18) : zSim X_X7_placings (1 + (n + 1)) P 18 (lX7_placings_18 self P r18) := by
  unfold lX7_placings_18
  refine sm_iload (pc := 18) (n := 5) dX7_placings_18 ?_
  refine sm_aload_n (pc := 20) (n := 2) dX7_placings_20 rfl ?_
  refine sm_arraylength (pc := 21) dX7_placings_21 ?_
  refine sm_icmp_ge (pc := 22) (tgt := 69) dX7_placings_22 (by decide) ?_ ?_
  · skip
    refine sm_iload_n (pc := 69) (n := 3) dX7_placings_69 rfl ?_
    exact sm_ireturn (pc := 70) dX7_placings_70 rfl
  · skip
    refine sm_aload_n (pc := 25) (n := 2) dX7_placings_25 rfl ?_
    refine sm_iload (pc := 26) (n := 5) dX7_placings_26 ?_
    refine sm_iaload (pc := 28) dX7_placings_28 ?_
    refine sm_iload (pc := 29) (n := 4) dX7_placings_29 ?_
    refine sm_join (pc := 31) (pc' := 63) (sbX7_placings_63 n self hself P r18 hr18) (fun j63 hj63 => ?_)
    refine sm_icmp_lt (pc := 31) (tgt := 63) dX7_placings_31 (by decide) ?_ ?_
    · skip
      exact hj63
    · skip
      refine sm_aload_n (pc := 34) (n := 2) dX7_placings_34 rfl ?_
      refine sm_iload (pc := 35) (n := 5) dX7_placings_35 ?_
      refine sm_dup2 (pc := 37) dX7_placings_37 ?_
      refine sm_iaload (pc := 38) dX7_placings_38 ?_
      refine sm_iload (pc := 39) (n := 4) dX7_placings_39 ?_
      refine sm_isub (pc := 41) dX7_placings_41 ?_
      refine sm_iastore (pc := 42) dX7_placings_42 ?_
      refine sm_iload_n (pc := 43) (n := 3) dX7_placings_43 rfl ?_
      refine sm_aload_n (pc := 44) (n := 0) dX7_placings_44 rfl ?_
      refine sm_iload_n (pc := 45) (n := 1) dX7_placings_45 rfl ?_
      refine sm_iconst (pc := 46) dX7_placings_46 zc_i_1 ?_
      refine sm_iadd (pc := 47) dX7_placings_47 ?_
      refine sm_aload_n (pc := 48) (n := 2) dX7_placings_48 rfl ?_
      refine sm_cS (pc := 49) (n := 3) (mc := 0) (ms := 0) hself (cr_X7_129 (X := X_X7_placings) (fr := 1 + (n + 1)) (frc := 1 + n) (pc := 49) (mc := 0) (ms := 0) rfl (by omega) dX7_placings_49) ?_
      refine sm_iadd (pc := 52) dX7_placings_52 ?_
      exact scX7_placings_53 n self hself P j63 hj63
noncomputable def b_X7_placings {d : Nat} (self : List zV → zH d → zP d → Bool) (P : zP d) : zK d := (xild 1 (xald 0 (xlen (xcmp tge (xpI 1 (xiret P)) (xpI 0 (xist 3 (xald 0 (xild 1 (xald1 0 (xist 4 (xpI 0 (xist 5 (xloop (fun r18 => (lX7_placings_18 self P r18)) 100000)))))))))))))
set_option maxRecDepth 100000 in
set_option maxHeartbeats 4000000 in
theorem s_X7_placings {d : Nat} [zGh] (n : Nat) (self : List zV → zH d → zP d → Bool) (hself : zMet X_X7_placings yX7_placings (1 + n) self) (P : zP d) : zSim X_X7_placings (1 + (n + 1)) P 0 (b_X7_placings self P) := by
  unfold b_X7_placings
  refine sm_iload_n (pc := 0) (n := 1) dX7_placings_0 rfl ?_
  refine sm_aload_n (pc := 1) (n := 0) dX7_placings_1 rfl ?_
  refine sm_arraylength (pc := 2) dX7_placings_2 ?_
  refine sm_icmp_lt (pc := 3) (tgt := 8) dX7_placings_3 (by decide) ?_ ?_
  · skip
    refine sm_iconst (pc := 8) dX7_placings_8 zc_i_0 ?_
    refine sm_istore_n (pc := 9) (n := 3) dX7_placings_9 rfl ?_
    refine sm_aload_n (pc := 10) (n := 0) dX7_placings_10 rfl ?_
    refine sm_iload_n (pc := 11) (n := 1) dX7_placings_11 rfl ?_
    refine sm_iaload (pc := 12) dX7_placings_12 ?_
    refine sm_istore (pc := 13) (n := 4) dX7_placings_13 ?_
    refine sm_iconst (pc := 15) dX7_placings_15 zc_i_0 ?_
    refine sm_istore (pc := 16) (n := 5) dX7_placings_16 ?_
    exact sm_loop (fun r18 hr18 => slX7_placings_18 n self hself P r18 hr18) _
  · skip
    refine sm_iconst (pc := 6) dX7_placings_6 zc_i_1 ?_
    exact sm_ireturn (pc := 7) dX7_placings_7 rfl
noncomputable def f_X7_placings {d : Nat} : List zV → zH d → zP d → Bool := zrec 6 b_X7_placings 8
theorem m_X7_placings {d : Nat} : zMet (d := d) X_X7_placings yX7_placings 9 f_X7_placings := zmet_rec (X := X_X7_placings) (fr := 1) (by decide) rfl rfl (fun n f hf _ P => s_X7_placings n f hf P) 8

abbrev X_X7_makeMarks : zM := (RX7, cX7_makeMarks, 4, none, "makeMarks")
noncomputable def lX7_makeMarks_28 {d : Nat} (P : zP d) (r2 : zK d) (r28 : zK d) : zK d := (xild 3 (xald 0 (xgfI 23 1 (xcmp tge (xinc 1 1 r2) (xald 0 (xgfR 23 11 (xild 1 (xaal (xild 3 (xald 0 (xgfR 23 3 (xild 3 (xaal (xgfR 20 2 (xpI 0 (xald 2 (xcS 3 0 0 f_X7_placings (xast1 0 (fun v => v) (xinc 3 1 r28)))))))))))))))))))
set_option maxRecDepth 100000 in
set_option maxHeartbeats 4000000 in
theorem slX7_makeMarks_28 {d : Nat} [zGh] (P : zP d) (r2 : zK d) (r28 : zK d) (hr2 : zSim X_X7_makeMarks 10 P 2 r2) (hr28 : zSim X_X7_makeMarks 10 P 28 r28) : zSim X_X7_makeMarks 10 P 28 (lX7_makeMarks_28 P r2 r28) := by
  unfold lX7_makeMarks_28
  refine sm_iload_n (pc := 28) (n := 3) dX7_makeMarks_28 rfl ?_
  refine sm_aload_n (pc := 29) (n := 0) dX7_makeMarks_29 rfl ?_
  refine gf_X7_19 (pc := 30) rfl dX7_makeMarks_30 ?_
  refine sm_icmp_ge (pc := 33) (tgt := 64) dX7_makeMarks_33 (by decide) ?_ ?_
  · skip
    refine sm_iinc (pc := 64) (n := 1) dX7_makeMarks_64 zc_i_1 ?_
    refine sm_goto (pc := 67) (tgt := 2) dX7_makeMarks_67 (by decide) ?_
    exact hr2
  · skip
    refine sm_aload_n (pc := 36) (n := 0) dX7_makeMarks_36 rfl ?_
    refine gf_X7_61 (pc := 37) rfl dX7_makeMarks_37 ?_
    refine sm_iload_n (pc := 40) (n := 1) dX7_makeMarks_40 rfl ?_
    refine sm_aaload (pc := 41) dX7_makeMarks_41 ?_
    refine sm_iload_n (pc := 42) (n := 3) dX7_makeMarks_42 rfl ?_
    refine sm_aload_n (pc := 43) (n := 0) dX7_makeMarks_43 rfl ?_
    refine gf_X7_24 (pc := 44) rfl dX7_makeMarks_44 ?_
    refine sm_iload_n (pc := 47) (n := 3) dX7_makeMarks_47 rfl ?_
    refine sm_aaload (pc := 48) dX7_makeMarks_48 ?_
    refine gf_X7_98 (pc := 49) rfl dX7_makeMarks_49 ?_
    refine sm_iconst (pc := 52) dX7_makeMarks_52 zc_i_0 ?_
    refine sm_aload_n (pc := 53) (n := 2) dX7_makeMarks_53 rfl ?_
    refine sm_cS (pc := 54) (n := 3) (mc := 0) (ms := 0) m_X7_placings (cr_X7_129 (X := X_X7_makeMarks) (fr := 10) (frc := 9) (pc := 54) (mc := 0) (ms := 0) rfl (by decide) dX7_makeMarks_54) ?_
    refine sm_iastore (pc := 57) dX7_makeMarks_57 ?_
    refine sm_iinc (pc := 58) (n := 3) dX7_makeMarks_58 zc_i_1 ?_
    refine sm_goto (pc := 61) (tgt := 28) dX7_makeMarks_61 (by decide) ?_
    exact hr28
noncomputable def lX7_makeMarks_2 {d : Nat} (P : zP d) (r2 : zK d) : zK d := (xild 1 (xald 0 (xgfI 23 1 (xcmp tge (xvret P) (xald 0 (xgfR 23 3 (xild 1 (xaal (xgfR 20 2 (xcln (xcast (xast 2 (xpI 0 (xist 3 (xloop (fun r28 => (lX7_makeMarks_28 P r2 r28)) 100000)))))))))))))))
set_option maxRecDepth 100000 in
set_option maxHeartbeats 4000000 in
theorem slX7_makeMarks_2 {d : Nat} [zGh] (P : zP d) (r2 : zK d) (hr2 : zSim X_X7_makeMarks 10 P 2 r2) : zSim X_X7_makeMarks 10 P 2 (lX7_makeMarks_2 P r2) := by
  unfold lX7_makeMarks_2
  refine sm_iload_n (pc := 2) (n := 1) dX7_makeMarks_2 rfl ?_
  refine sm_aload_n (pc := 3) (n := 0) dX7_makeMarks_3 rfl ?_
  refine gf_X7_19 (pc := 4) rfl dX7_makeMarks_4 ?_
  refine sm_icmp_ge (pc := 7) (tgt := 70) dX7_makeMarks_7 (by decide) ?_ ?_
  · skip
    exact sm_vreturn (pc := 70) dX7_makeMarks_70 rfl
  · skip
    refine sm_aload_n (pc := 10) (n := 0) dX7_makeMarks_10 rfl ?_
    refine gf_X7_24 (pc := 11) rfl dX7_makeMarks_11 ?_
    refine sm_iload_n (pc := 14) (n := 1) dX7_makeMarks_14 rfl ?_
    refine sm_aaload (pc := 15) dX7_makeMarks_15 ?_
    refine gf_X7_98 (pc := 16) rfl dX7_makeMarks_16 ?_
    refine sm_clone (pc := 19) wd_221 wd_69 wd_70 wd_71 wd_72 (by decide) dX7_makeMarks_19 ?_
    refine sm_castI (pc := 22) wd_222 dX7_makeMarks_22 ?_
    refine sm_astore_n (pc := 25) (n := 2) dX7_makeMarks_25 rfl ?_
    refine sm_iconst (pc := 26) dX7_makeMarks_26 zc_i_0 ?_
    refine sm_istore_n (pc := 27) (n := 3) dX7_makeMarks_27 rfl ?_
    exact sm_loop (fun r28 hr28 => slX7_makeMarks_28 P r2 r28 hr2 hr28) _
noncomputable def b_X7_makeMarks {d : Nat} (P : zP d) : zK d := (xpI 0 (xist 1 (xloop (fun r2 => (lX7_makeMarks_2 P r2)) 100000)))
set_option maxRecDepth 100000 in
set_option maxHeartbeats 4000000 in
theorem s_X7_makeMarks {d : Nat} [zGh] (P : zP d) : zSim X_X7_makeMarks 10 P 0 (b_X7_makeMarks P) := by
  unfold b_X7_makeMarks
  refine sm_iconst (pc := 0) dX7_makeMarks_0 zc_i_0 ?_
  refine sm_istore_n (pc := 1) (n := 1) dX7_makeMarks_1 rfl ?_
  exact sm_loop (fun r2 hr2 => slX7_makeMarks_2 P r2 hr2) _
noncomputable def f_X7_makeMarks {d : Nat} : List zV → zH d → zP d → Bool := zfn 4 b_X7_makeMarks
theorem m_X7_makeMarks {d : Nat} : zMet (d := d) X_X7_makeMarks yX7_makeMarks 10 f_X7_makeMarks := zmet_mk (X := X_X7_makeMarks) (by decide) rfl rfl s_X7_makeMarks

abbrev X_X7_timesIn : zM := (RX7, cX7_timesIn, 5, (some .int), "timesIn")
noncomputable def bX7_timesIn_57 {d : Nat} (P : zP d) : zK d := (xiret P)
set_option maxRecDepth 100000 in
set_option maxHeartbeats 4000000 in
theorem sbX7_timesIn_57 {d : Nat} [zGh] (P : zP d) : zSim X_X7_timesIn 1 P 57 (bX7_timesIn_57 P) := by
  unfold bX7_timesIn_57
  exact sm_ireturn (pc := 57) dX7_timesIn_57 rfl
noncomputable def lX7_timesIn_5 {d : Nat} (P : zP d) (r5 : zK d) : zK d := (xild 4 (xald 0 (xgfI 23 1 (xcmp tge (xald 0 (xgfI 23 2 (xjoin (bX7_timesIn_57 P) (fun j57 => (xif0 t0le (xpI 0 j57) (xild 3 (xald 0 (xgfI 23 2 (xbinN zdiv j57))))))))) (xild 3 (xald 0 (xgfR 23 5 (xild 4 (xald1 0 (xald 1 (xild 4 (xald1 0 (xbin zmul (xald 2 (xild 4 (xald1 0 (xbin zmul (xbin zadd (xist 3 (xinc 4 1 r5))))))))))))))))))))
set_option maxRecDepth 100000 in
set_option maxHeartbeats 4000000 in
theorem slX7_timesIn_5 {d : Nat} [zGh] (P : zP d) (r5 : zK d) (hr5 : zSim X_X7_timesIn 1 P 5 r5) : zSim X_X7_timesIn 1 P 5 (lX7_timesIn_5 P r5) := by
  unfold lX7_timesIn_5
  refine sm_iload (pc := 5) (n := 4) dX7_timesIn_5 ?_
  refine sm_aload_n (pc := 7) (n := 0) dX7_timesIn_7 rfl ?_
  refine gf_X7_19 (pc := 8) rfl dX7_timesIn_8 ?_
  refine sm_icmp_ge (pc := 11) (tgt := 40) dX7_timesIn_11 (by decide) ?_ ?_
  · skip
    refine sm_aload_n (pc := 40) (n := 0) dX7_timesIn_40 rfl ?_
    refine gf_X7_35 (pc := 41) rfl dX7_timesIn_41 ?_
    refine sm_join (pc := 44) (pc' := 57) (sbX7_timesIn_57 P) (fun j57 hj57 => ?_)
    refine sm_if_le (pc := 44) (tgt := 56) dX7_timesIn_44 (by decide) ?_ ?_
    · skip
      refine sm_iconst (pc := 56) dX7_timesIn_56 zc_i_0 ?_
      exact hj57
    · skip
      refine sm_iload_n (pc := 47) (n := 3) dX7_timesIn_47 rfl ?_
      refine sm_aload_n (pc := 48) (n := 0) dX7_timesIn_48 rfl ?_
      refine gf_X7_35 (pc := 49) rfl dX7_timesIn_49 ?_
      refine sm_idiv (pc := 52) dX7_timesIn_52 ?_
      refine sm_goto (pc := 53) (tgt := 57) dX7_timesIn_53 (by decide) ?_
      exact hj57
  · skip
    refine sm_iload_n (pc := 14) (n := 3) dX7_timesIn_14 rfl ?_
    refine sm_aload_n (pc := 15) (n := 0) dX7_timesIn_15 rfl ?_
    refine gf_X7_41 (pc := 16) rfl dX7_timesIn_16 ?_
    refine sm_iload (pc := 19) (n := 4) dX7_timesIn_19 ?_
    refine sm_iaload (pc := 21) dX7_timesIn_21 ?_
    refine sm_aload_n (pc := 22) (n := 1) dX7_timesIn_22 rfl ?_
    refine sm_iload (pc := 23) (n := 4) dX7_timesIn_23 ?_
    refine sm_iaload (pc := 25) dX7_timesIn_25 ?_
    refine sm_imul (pc := 26) dX7_timesIn_26 ?_
    refine sm_aload_n (pc := 27) (n := 2) dX7_timesIn_27 rfl ?_
    refine sm_iload (pc := 28) (n := 4) dX7_timesIn_28 ?_
    refine sm_iaload (pc := 30) dX7_timesIn_30 ?_
    refine sm_imul (pc := 31) dX7_timesIn_31 ?_
    refine sm_iadd (pc := 32) dX7_timesIn_32 ?_
    refine sm_istore_n (pc := 33) (n := 3) dX7_timesIn_33 rfl ?_
    refine sm_iinc (pc := 34) (n := 4) dX7_timesIn_34 zc_i_1 ?_
    refine sm_goto (pc := 37) (tgt := 5) dX7_timesIn_37 (by decide) ?_
    exact hr5
noncomputable def b_X7_timesIn {d : Nat} (P : zP d) : zK d := (xpI 0 (xist 3 (xpI 0 (xist 4 (xloop (fun r5 => (lX7_timesIn_5 P r5)) 100000)))))
set_option maxRecDepth 100000 in
set_option maxHeartbeats 4000000 in
theorem s_X7_timesIn {d : Nat} [zGh] (P : zP d) : zSim X_X7_timesIn 1 P 0 (b_X7_timesIn P) := by
  unfold b_X7_timesIn
  refine sm_iconst (pc := 0) dX7_timesIn_0 zc_i_0 ?_
  refine sm_istore_n (pc := 1) (n := 3) dX7_timesIn_1 rfl ?_
  refine sm_iconst (pc := 2) dX7_timesIn_2 zc_i_0 ?_
  refine sm_istore (pc := 3) (n := 4) dX7_timesIn_3 ?_
  exact sm_loop (fun r5 hr5 => slX7_timesIn_5 P r5 hr5) _
noncomputable def f_X7_timesIn {d : Nat} : List zV → zH d → zP d → Bool := zfn 5 b_X7_timesIn
theorem m_X7_timesIn {d : Nat} : zMet (d := d) X_X7_timesIn yX7_timesIn 1 f_X7_timesIn := zmet_mk (X := X_X7_timesIn) (by decide) rfl rfl s_X7_timesIn

abbrev X_X7_makeCharacters : zM := (RX7, cX7_makeCharacters, 5, none, "makeCharacters")
noncomputable def lX7_makeCharacters_58 {d : Nat} (P : zP d) (r33 : zK d) (r58 : zK d) : zK d := (xild 4 (xald 0 (xgfI 23 1 (xcmp tge (xinc 2 1 r33) (xald 0 (xgfR 23 12 (xild 1 (xaal (xild 4 (xdup2 (xald1 0 (xild 3 (xald 0 (xgfR 23 12 (xild 2 (xaal (xild 4 (xald1 0 (xbin zmul (xbin zsub (xast1 0 (fun v => v) (xinc 4 1 r58))))))))))))))))))))))
set_option maxRecDepth 100000 in
set_option maxHeartbeats 4000000 in
theorem slX7_makeCharacters_58 {d : Nat} [zGh] (P : zP d) (r33 : zK d) (r58 : zK d) (hr33 : zSim X_X7_makeCharacters 2 P 33 r33) (hr58 : zSim X_X7_makeCharacters 2 P 58 r58) : zSim X_X7_makeCharacters 2 P 58 (lX7_makeCharacters_58 P r33 r58) := by
  unfold lX7_makeCharacters_58
  refine sm_iload (pc := 58) (n := 4) dX7_makeCharacters_58 ?_
  refine sm_aload_n (pc := 60) (n := 0) dX7_makeCharacters_60 rfl ?_
  refine gf_X7_19 (pc := 61) rfl dX7_makeCharacters_61 ?_
  refine sm_icmp_ge (pc := 64) (tgt := 96) dX7_makeCharacters_64 (by decide) ?_ ?_
  · skip
    refine sm_iinc (pc := 96) (n := 2) dX7_makeCharacters_96 zc_i_1 ?_
    refine sm_goto (pc := 99) (tgt := 33) dX7_makeCharacters_99 (by decide) ?_
    exact hr33
  · skip
    refine sm_aload_n (pc := 67) (n := 0) dX7_makeCharacters_67 rfl ?_
    refine gf_X7_64 (pc := 68) rfl dX7_makeCharacters_68 ?_
    refine sm_iload_n (pc := 71) (n := 1) dX7_makeCharacters_71 rfl ?_
    refine sm_aaload (pc := 72) dX7_makeCharacters_72 ?_
    refine sm_iload (pc := 73) (n := 4) dX7_makeCharacters_73 ?_
    refine sm_dup2 (pc := 75) dX7_makeCharacters_75 ?_
    refine sm_iaload (pc := 76) dX7_makeCharacters_76 ?_
    refine sm_iload_n (pc := 77) (n := 3) dX7_makeCharacters_77 rfl ?_
    refine sm_aload_n (pc := 78) (n := 0) dX7_makeCharacters_78 rfl ?_
    refine gf_X7_64 (pc := 79) rfl dX7_makeCharacters_79 ?_
    refine sm_iload_n (pc := 82) (n := 2) dX7_makeCharacters_82 rfl ?_
    refine sm_aaload (pc := 83) dX7_makeCharacters_83 ?_
    refine sm_iload (pc := 84) (n := 4) dX7_makeCharacters_84 ?_
    refine sm_iaload (pc := 86) dX7_makeCharacters_86 ?_
    refine sm_imul (pc := 87) dX7_makeCharacters_87 ?_
    refine sm_isub (pc := 88) dX7_makeCharacters_88 ?_
    refine sm_iastore (pc := 89) dX7_makeCharacters_89 ?_
    refine sm_iinc (pc := 90) (n := 4) dX7_makeCharacters_90 zc_i_1 ?_
    refine sm_goto (pc := 93) (tgt := 58) dX7_makeCharacters_93 (by decide) ?_
    exact hr58
noncomputable def lX7_makeCharacters_33 {d : Nat} (P : zP d) (r2 : zK d) (r33 : zK d) : zK d := (xild 2 (xild 1 (xcmp tge (xinc 1 1 r2) (xald 0 (xald 0 (xgfR 23 11 (xild 1 (xaal (xald 0 (xgfR 23 12 (xild 2 (xaal (xcV 23 3 0 0 f_X7_timesIn (xist 3 (xpI 0 (xist 4 (xloop (fun r58 => (lX7_makeCharacters_58 P r33 r58)) 100000)))))))))))))))))
set_option maxRecDepth 100000 in
set_option maxHeartbeats 4000000 in
theorem slX7_makeCharacters_33 {d : Nat} [zGh] (P : zP d) (r2 : zK d) (r33 : zK d) (hr2 : zSim X_X7_makeCharacters 2 P 2 r2) (hr33 : zSim X_X7_makeCharacters 2 P 33 r33) : zSim X_X7_makeCharacters 2 P 33 (lX7_makeCharacters_33 P r2 r33) := by
  unfold lX7_makeCharacters_33
  refine sm_iload_n (pc := 33) (n := 2) dX7_makeCharacters_33 rfl ?_
  refine sm_iload_n (pc := 34) (n := 1) dX7_makeCharacters_34 rfl ?_
  refine sm_icmp_ge (pc := 35) (tgt := 102) dX7_makeCharacters_35 (by decide) ?_ ?_
  · skip
    refine sm_iinc (pc := 102) (n := 1) dX7_makeCharacters_102 zc_i_1 ?_
    refine sm_goto (pc := 105) (tgt := 2) dX7_makeCharacters_105 (by decide) ?_
    exact hr2
  · skip
    refine sm_aload_n (pc := 38) (n := 0) dX7_makeCharacters_38 rfl ?_
    refine sm_aload_n (pc := 39) (n := 0) dX7_makeCharacters_39 rfl ?_
    refine gf_X7_61 (pc := 40) rfl dX7_makeCharacters_40 ?_
    refine sm_iload_n (pc := 43) (n := 1) dX7_makeCharacters_43 rfl ?_
    refine sm_aaload (pc := 44) dX7_makeCharacters_44 ?_
    refine sm_aload_n (pc := 45) (n := 0) dX7_makeCharacters_45 rfl ?_
    refine gf_X7_64 (pc := 46) rfl dX7_makeCharacters_46 ?_
    refine sm_iload_n (pc := 49) (n := 2) dX7_makeCharacters_49 rfl ?_
    refine sm_aaload (pc := 50) dX7_makeCharacters_50 ?_
    refine sm_cV (pc := 51) (ci := 7) (n := 3) (mc := 0) (ms := 0) rfl m_X7_timesIn (cr_X7_138 (X := X_X7_makeCharacters) (fr := 2) (frc := 1) (pc := 51) (mc := 0) (ms := 0) rfl (by decide) dX7_makeCharacters_51) ?_
    refine sm_istore_n (pc := 54) (n := 3) dX7_makeCharacters_54 rfl ?_
    refine sm_iconst (pc := 55) dX7_makeCharacters_55 zc_i_0 ?_
    refine sm_istore (pc := 56) (n := 4) dX7_makeCharacters_56 ?_
    exact sm_loop (fun r58 hr58 => slX7_makeCharacters_58 P r33 r58 hr33 hr58) _
noncomputable def lX7_makeCharacters_2 {d : Nat} (P : zP d) (r2 : zK d) : zK d := (xild 1 (xald 0 (xgfI 23 1 (xcmp tge (xvret P) (xald 0 (xgfR 23 11 (xild 1 (xaal (xpI 0 (xald 0 (xgfR 23 12 (xild 1 (xaal (xpI 0 (xald 0 (xgfI 23 1 (xcpy 0 40 (xpI 0 (xist 2 (xloop (fun r33 => (lX7_makeCharacters_33 P r2 r33)) 100000))))))))))))))))))))
set_option maxRecDepth 100000 in
set_option maxHeartbeats 4000000 in
theorem slX7_makeCharacters_2 {d : Nat} [zGh] (P : zP d) (r2 : zK d) (hr2 : zSim X_X7_makeCharacters 2 P 2 r2) : zSim X_X7_makeCharacters 2 P 2 (lX7_makeCharacters_2 P r2) := by
  unfold lX7_makeCharacters_2
  refine sm_iload_n (pc := 2) (n := 1) dX7_makeCharacters_2 rfl ?_
  refine sm_aload_n (pc := 3) (n := 0) dX7_makeCharacters_3 rfl ?_
  refine gf_X7_19 (pc := 4) rfl dX7_makeCharacters_4 ?_
  refine sm_icmp_ge (pc := 7) (tgt := 108) dX7_makeCharacters_7 (by decide) ?_ ?_
  · skip
    exact sm_vreturn (pc := 108) dX7_makeCharacters_108 rfl
  · skip
    refine sm_aload_n (pc := 10) (n := 0) dX7_makeCharacters_10 rfl ?_
    refine gf_X7_61 (pc := 11) rfl dX7_makeCharacters_11 ?_
    refine sm_iload_n (pc := 14) (n := 1) dX7_makeCharacters_14 rfl ?_
    refine sm_aaload (pc := 15) dX7_makeCharacters_15 ?_
    refine sm_iconst (pc := 16) dX7_makeCharacters_16 zc_i_0 ?_
    refine sm_aload_n (pc := 17) (n := 0) dX7_makeCharacters_17 rfl ?_
    refine gf_X7_64 (pc := 18) rfl dX7_makeCharacters_18 ?_
    refine sm_iload_n (pc := 21) (n := 1) dX7_makeCharacters_21 rfl ?_
    refine sm_aaload (pc := 22) dX7_makeCharacters_22 ?_
    refine sm_iconst (pc := 23) dX7_makeCharacters_23 zc_i_0 ?_
    refine sm_aload_n (pc := 24) (n := 0) dX7_makeCharacters_24 rfl ?_
    refine gf_X7_19 (pc := 25) rfl dX7_makeCharacters_25 ?_
    refine sm_copyI (pc := 28) wd_230 wd_80 wd_79 wd_7 (by decide) dX7_makeCharacters_28 ?_
    refine sm_iconst (pc := 31) dX7_makeCharacters_31 zc_i_0 ?_
    refine sm_istore_n (pc := 32) (n := 2) dX7_makeCharacters_32 rfl ?_
    exact sm_loop (fun r33 hr33 => slX7_makeCharacters_33 P r2 r33 hr2 hr33) _
noncomputable def b_X7_makeCharacters {d : Nat} (P : zP d) : zK d := (xpI 0 (xist 1 (xloop (fun r2 => (lX7_makeCharacters_2 P r2)) 100000)))
set_option maxRecDepth 100000 in
set_option maxHeartbeats 4000000 in
theorem s_X7_makeCharacters {d : Nat} [zGh] (P : zP d) : zSim X_X7_makeCharacters 2 P 0 (b_X7_makeCharacters P) := by
  unfold b_X7_makeCharacters
  refine sm_iconst (pc := 0) dX7_makeCharacters_0 zc_i_0 ?_
  refine sm_istore_n (pc := 1) (n := 1) dX7_makeCharacters_1 rfl ?_
  exact sm_loop (fun r2 hr2 => slX7_makeCharacters_2 P r2 hr2) _
noncomputable def f_X7_makeCharacters {d : Nat} : List zV → zH d → zP d → Bool := zfn 5 b_X7_makeCharacters
theorem m_X7_makeCharacters {d : Nat} : zMet (d := d) X_X7_makeCharacters yX7_makeCharacters 2 f_X7_makeCharacters := zmet_mk (X := X_X7_makeCharacters) (by decide) rfl rfl s_X7_makeCharacters

abbrev X_X7_countCodes : zM := (RX7, cX7_countCodes, 3, (some .int), "countCodes")
noncomputable def lX7_countCodes_4 {d : Nat} (P : zP d) (r4 : zK d) : zK d := (xild 2 (xald 0 (xgfI 23 1 (xcmp tge (xild 1 (xiret P)) (xild 1 (xald 0 (xgfR 23 3 (xild 2 (xaal (xcV 20 1 0 0 f_X4_codeCount (xmm zmax (xist 1 (xinc 2 1 r4)))))))))))))
set_option maxRecDepth 100000 in
set_option maxHeartbeats 4000000 in
theorem slX7_countCodes_4 {d : Nat} [zGh] (P : zP d) (r4 : zK d) (hr4 : zSim X_X7_countCodes 2 P 4 r4) : zSim X_X7_countCodes 2 P 4 (lX7_countCodes_4 P r4) := by
  unfold lX7_countCodes_4
  refine sm_iload_n (pc := 4) (n := 2) dX7_countCodes_4 rfl ?_
  refine sm_aload_n (pc := 5) (n := 0) dX7_countCodes_5 rfl ?_
  refine gf_X7_19 (pc := 6) rfl dX7_countCodes_6 ?_
  refine sm_icmp_ge (pc := 9) (tgt := 32) dX7_countCodes_9 (by decide) ?_ ?_
  · skip
    refine sm_iload_n (pc := 32) (n := 1) dX7_countCodes_32 rfl ?_
    exact sm_ireturn (pc := 33) dX7_countCodes_33 rfl
  · skip
    refine sm_iload_n (pc := 12) (n := 1) dX7_countCodes_12 rfl ?_
    refine sm_aload_n (pc := 13) (n := 0) dX7_countCodes_13 rfl ?_
    refine gf_X7_24 (pc := 14) rfl dX7_countCodes_14 ?_
    refine sm_iload_n (pc := 17) (n := 2) dX7_countCodes_17 rfl ?_
    refine sm_aaload (pc := 18) dX7_countCodes_18 ?_
    refine sm_cV (pc := 19) (ci := 4) (n := 1) (mc := 0) (ms := 0) rfl m_X4_codeCount (cr_X7_142 (X := X_X7_countCodes) (fr := 2) (frc := 1) (pc := 19) (mc := 0) (ms := 0) rfl (by decide) dX7_countCodes_19) ?_
    refine sm_mmax (pc := 22) wd_243 wd_104 wd_6 wd_105 (by decide) dX7_countCodes_22 ?_
    refine sm_istore_n (pc := 25) (n := 1) dX7_countCodes_25 rfl ?_
    refine sm_iinc (pc := 26) (n := 2) dX7_countCodes_26 zc_i_1 ?_
    refine sm_goto (pc := 29) (tgt := 4) dX7_countCodes_29 (by decide) ?_
    exact hr4
noncomputable def b_X7_countCodes {d : Nat} (P : zP d) : zK d := (xpI 1 (xist 1 (xpI 0 (xist 2 (xloop (fun r4 => (lX7_countCodes_4 P r4)) 100000)))))
set_option maxRecDepth 100000 in
set_option maxHeartbeats 4000000 in
theorem s_X7_countCodes {d : Nat} [zGh] (P : zP d) : zSim X_X7_countCodes 2 P 0 (b_X7_countCodes P) := by
  unfold b_X7_countCodes
  refine sm_iconst (pc := 0) dX7_countCodes_0 zc_i_1 ?_
  refine sm_istore_n (pc := 1) (n := 1) dX7_countCodes_1 rfl ?_
  refine sm_iconst (pc := 2) dX7_countCodes_2 zc_i_0 ?_
  refine sm_istore_n (pc := 3) (n := 2) dX7_countCodes_3 rfl ?_
  exact sm_loop (fun r4 hr4 => slX7_countCodes_4 P r4 hr4) _
noncomputable def f_X7_countCodes {d : Nat} : List zV → zH d → zP d → Bool := zfn 3 b_X7_countCodes
theorem m_X7_countCodes {d : Nat} : zMet (d := d) X_X7_countCodes yX7_countCodes 2 f_X7_countCodes := zmet_mk (X := X_X7_countCodes) (by decide) rfl rfl s_X7_countCodes

abbrev X_X7_init : zM := (RX7, cX7_init, 3, none, "<init>")
noncomputable def lX7_init_226 {d : Nat} (P : zP d) (r226 : zK d) : zK d := (xild 2 (xald 0 (xgfI 23 1 (xcmp tge (xvret P) (xald 0 (xgfR 23 3 (xild 2 (xaal (xald 0 (xgfR 23 10 (xald 0 (xgfI 23 1 (xpI 1 (xbin zsub (xaal (xald 0 (xgfR 23 13 (xcV 20 3 0 0 f_X4_makeForms (xinc 2 1 r226)))))))))))))))))))
set_option maxRecDepth 100000 in
set_option maxHeartbeats 4000000 in
theorem slX7_init_226 {d : Nat} [zGh] (P : zP d) (r226 : zK d) (hr226 : zSim X_X7_init 12 P 226 r226) : zSim X_X7_init 12 P 226 (lX7_init_226 P r226) := by
  unfold lX7_init_226
  refine sm_iload_n (pc := 226) (n := 2) dX7_init_226 rfl ?_
  refine sm_aload_n (pc := 227) (n := 0) dX7_init_227 rfl ?_
  refine gf_X7_19 (pc := 228) rfl dX7_init_228 ?_
  refine sm_icmp_ge (pc := 231) (tgt := 264) dX7_init_231 (by decide) ?_ ?_
  · skip
    exact sm_vreturn (pc := 264) dX7_init_264 rfl
  · skip
    refine sm_aload_n (pc := 234) (n := 0) dX7_init_234 rfl ?_
    refine gf_X7_24 (pc := 235) rfl dX7_init_235 ?_
    refine sm_iload_n (pc := 238) (n := 2) dX7_init_238 rfl ?_
    refine sm_aaload (pc := 239) dX7_init_239 ?_
    refine sm_aload_n (pc := 240) (n := 0) dX7_init_240 rfl ?_
    refine gf_X7_58 (pc := 241) rfl dX7_init_241 ?_
    refine sm_aload_n (pc := 244) (n := 0) dX7_init_244 rfl ?_
    refine gf_X7_19 (pc := 245) rfl dX7_init_245 ?_
    refine sm_iconst (pc := 248) dX7_init_248 zc_i_1 ?_
    refine sm_isub (pc := 249) dX7_init_249 ?_
    refine sm_aaload (pc := 250) dX7_init_250 ?_
    refine sm_aload_n (pc := 251) (n := 0) dX7_init_251 rfl ?_
    refine gf_X7_91 (pc := 252) rfl dX7_init_252 ?_
    refine sm_cV (pc := 255) (ci := 4) (n := 3) (mc := 0) (ms := 0) rfl m_X4_makeForms (cr_X7_94 (X := X_X7_init) (fr := 12) (frc := 3) (pc := 255) (mc := 0) (ms := 0) rfl (by decide) dX7_init_255) ?_
    refine sm_iinc (pc := 258) (n := 2) dX7_init_258 zc_i_1 ?_
    refine sm_goto (pc := 261) (tgt := 226) dX7_init_261 (by decide) ?_
    exact hr226
noncomputable def cX7_init_196 {d : Nat} (P : zP d) (r154 : zK d) : zK d := (xinc 2 1 r154)
set_option maxRecDepth 100000 in
set_option maxHeartbeats 4000000 in
theorem scX7_init_196 {d : Nat} [zGh] (P : zP d) (r154 : zK d) (hr154 : zSim X_X7_init 12 P 154 r154) : zSim X_X7_init 12 P 196 (cX7_init_196 P r154) := by
  unfold cX7_init_196
  refine sm_iinc (pc := 196) (n := 2) dX7_init_196 zc_i_1 ?_
  refine sm_goto (pc := 199) (tgt := 154) dX7_init_199 (by decide) ?_
  exact hr154
noncomputable def lX7_init_154 {d : Nat} (P : zP d) (r154 : zK d) : zK d := (xild 2 (xald 0 (xgfI 23 1 (xcmp tge (xald 0 (xcV 23 1 1 6 f_X7_makePowers (xald 0 (xcV 23 1 11 66 f_X7_makeMarks (xald 0 (xcV 23 1 0 0 f_X7_makeCharacters (xald 0 (xald 0 (xcV 23 1 0 0 f_X7_countCodes (xnwa 0 (xpfR 23 13 (xpI 0 (xist 2 (xloop (fun r226 => (lX7_init_226 P r226)) 100000)))))))))))))) (xald 0 (xild 2 (xcV 23 2 0 0 f_X7_describeClass (xald 0 (xgfR 23 4 (xild 2 (xald 0 (xald 0 (xgfR 23 3 (xild 2 (xaal (xgfR 20 3 (xald 0 (xgfR 23 3 (xild 2 (xaal (xgfR 20 3 (xlen (xcV 23 3 0 0 f_X7_numberOf (xast1 0 (fun v => v) (cX7_init_196 P r154)))))))))))))))))))))))))
set_option maxRecDepth 100000 in
set_option maxHeartbeats 4000000 in
theorem slX7_init_154 {d : Nat} [zGh] (P : zP d) (r154 : zK d) (hr154 : zSim X_X7_init 12 P 154 r154) : zSim X_X7_init 12 P 154 (lX7_init_154 P r154) := by
  unfold lX7_init_154
  refine sm_iload_n (pc := 154) (n := 2) dX7_init_154 rfl ?_
  refine sm_aload_n (pc := 155) (n := 0) dX7_init_155 rfl ?_
  refine gf_X7_19 (pc := 156) rfl dX7_init_156 ?_
  refine sm_icmp_ge (pc := 159) (tgt := 202) dX7_init_159 (by decide) ?_ ?_
  · skip
    refine sm_aload_n (pc := 202) (n := 0) dX7_init_202 rfl ?_
    refine sm_cV (pc := 203) (ci := 7) (n := 1) (mc := 1) (ms := 6) rfl m_X7_makePowers (cr_X7_78 (X := X_X7_init) (fr := 12) (frc := 3) (pc := 203) (mc := 1) (ms := 6) rfl (by decide) dX7_init_203) ?_
    refine sm_aload_n (pc := 206) (n := 0) dX7_init_206 rfl ?_
    refine sm_cV (pc := 207) (ci := 7) (n := 1) (mc := 11) (ms := 66) rfl m_X7_makeMarks (cr_X7_81 (X := X_X7_init) (fr := 12) (frc := 10) (pc := 207) (mc := 11) (ms := 66) rfl (by decide) dX7_init_207) ?_
    refine sm_aload_n (pc := 210) (n := 0) dX7_init_210 rfl ?_
    refine sm_cV (pc := 211) (ci := 7) (n := 1) (mc := 0) (ms := 0) rfl m_X7_makeCharacters (cr_X7_84 (X := X_X7_init) (fr := 12) (frc := 2) (pc := 211) (mc := 0) (ms := 0) rfl (by decide) dX7_init_211) ?_
    refine sm_aload_n (pc := 214) (n := 0) dX7_init_214 rfl ?_
    refine sm_aload_n (pc := 215) (n := 0) dX7_init_215 rfl ?_
    refine sm_cV (pc := 216) (ci := 7) (n := 1) (mc := 0) (ms := 0) rfl m_X7_countCodes (cr_X7_87 (X := X_X7_init) (fr := 12) (frc := 2) (pc := 216) (mc := 0) (ms := 0) rfl (by decide) dX7_init_216) ?_
    refine sm_newI (pc := 219) dX7_init_219 wd_46 ?_
    refine pf_X7_91 (pc := 221) rfl rfl dX7_init_221 ?_
    refine sm_iconst (pc := 224) dX7_init_224 zc_i_0 ?_
    refine sm_istore_n (pc := 225) (n := 2) dX7_init_225 rfl ?_
    exact sm_loop (fun r226 hr226 => slX7_init_226 P r226 hr226) _
  · skip
    refine sm_aload_n (pc := 162) (n := 0) dX7_init_162 rfl ?_
    refine sm_iload_n (pc := 163) (n := 2) dX7_init_163 rfl ?_
    refine sm_cV (pc := 164) (ci := 7) (n := 2) (mc := 0) (ms := 0) rfl m_X7_describeClass (cr_X7_67 (X := X_X7_init) (fr := 12) (frc := 2) (pc := 164) (mc := 0) (ms := 0) rfl (by decide) dX7_init_164) ?_
    refine sm_aload_n (pc := 167) (n := 0) dX7_init_167 rfl ?_
    refine gf_X7_38 (pc := 168) rfl dX7_init_168 ?_
    refine sm_iload_n (pc := 171) (n := 2) dX7_init_171 rfl ?_
    refine sm_aload_n (pc := 172) (n := 0) dX7_init_172 rfl ?_
    refine sm_aload_n (pc := 173) (n := 0) dX7_init_173 rfl ?_
    refine gf_X7_24 (pc := 174) rfl dX7_init_174 ?_
    refine sm_iload_n (pc := 177) (n := 2) dX7_init_177 rfl ?_
    refine sm_aaload (pc := 178) dX7_init_178 ?_
    refine gf_X7_71 (pc := 179) rfl dX7_init_179 ?_
    refine sm_aload_n (pc := 182) (n := 0) dX7_init_182 rfl ?_
    refine gf_X7_24 (pc := 183) rfl dX7_init_183 ?_
    refine sm_iload_n (pc := 186) (n := 2) dX7_init_186 rfl ?_
    refine sm_aaload (pc := 187) dX7_init_187 ?_
    refine gf_X7_71 (pc := 188) rfl dX7_init_188 ?_
    refine sm_arraylength (pc := 191) dX7_init_191 ?_
    refine sm_cV (pc := 192) (ci := 7) (n := 3) (mc := 0) (ms := 0) rfl m_X7_numberOf (cr_X7_74 (X := X_X7_init) (fr := 12) (frc := 1) (pc := 192) (mc := 0) (ms := 0) rfl (by decide) dX7_init_192) ?_
    refine sm_iastore (pc := 195) dX7_init_195 ?_
    exact scX7_init_196 P r154 hr154
noncomputable def cX7_init_152 {d : Nat} (P : zP d) : zK d := (xpI 0 (xist 2 (xloop (fun r154 => (lX7_init_154 P r154)) 100000)))
set_option maxRecDepth 100000 in
set_option maxHeartbeats 4000000 in
theorem scX7_init_152 {d : Nat} [zGh] (P : zP d) : zSim X_X7_init 12 P 152 (cX7_init_152 P) := by
  unfold cX7_init_152
  refine sm_iconst (pc := 152) dX7_init_152 zc_i_0 ?_
  refine sm_istore_n (pc := 153) (n := 2) dX7_init_153 rfl ?_
  exact sm_loop (fun r154 hr154 => slX7_init_154 P r154 hr154) _
noncomputable def cX7_init_98 {d : Nat} (P : zP d) : zK d := (xmnaD 3 0 (xpfR 23 9 (xald 0 (xald 0 (xgfI 23 1 (xild 1 (xpI 1 (xbin zadd (xmnaD 3 0 (xpfR 23 10 (xald 0 (xald 0 (xgfI 23 1 (xald 0 (xgfI 23 1 (xmnaD 3 0 (xpfR 23 11 (xald 0 (xald 0 (xgfI 23 1 (xald 0 (xgfI 23 1 (xmnaD 3 0 (xpfR 23 12 (cX7_init_152 P)))))))))))))))))))))))))
set_option maxRecDepth 100000 in
set_option maxHeartbeats 4000000 in
theorem scX7_init_98 {d : Nat} [zGh] (P : zP d) : zSim X_X7_init 12 P 98 (cX7_init_98 P) := by
  unfold cX7_init_98
  refine sm_mnaDI (pc := 98) wd_194 wd_46 dX7_init_98 ?_
  refine pf_X7_55 (pc := 102) rfl rfl dX7_init_102 ?_
  refine sm_aload_n (pc := 105) (n := 0) dX7_init_105 rfl ?_
  refine sm_aload_n (pc := 106) (n := 0) dX7_init_106 rfl ?_
  refine gf_X7_19 (pc := 107) rfl dX7_init_107 ?_
  refine sm_iload_n (pc := 110) (n := 1) dX7_init_110 rfl ?_
  refine sm_iconst (pc := 111) dX7_init_111 zc_i_1 ?_
  refine sm_iadd (pc := 112) dX7_init_112 ?_
  refine sm_mnaDI (pc := 113) wd_194 wd_46 dX7_init_113 ?_
  refine pf_X7_58 (pc := 117) rfl rfl dX7_init_117 ?_
  refine sm_aload_n (pc := 120) (n := 0) dX7_init_120 rfl ?_
  refine sm_aload_n (pc := 121) (n := 0) dX7_init_121 rfl ?_
  refine gf_X7_19 (pc := 122) rfl dX7_init_122 ?_
  refine sm_aload_n (pc := 125) (n := 0) dX7_init_125 rfl ?_
  refine gf_X7_19 (pc := 126) rfl dX7_init_126 ?_
  refine sm_mnaDI (pc := 129) wd_194 wd_46 dX7_init_129 ?_
  refine pf_X7_61 (pc := 133) rfl rfl dX7_init_133 ?_
  refine sm_aload_n (pc := 136) (n := 0) dX7_init_136 rfl ?_
  refine sm_aload_n (pc := 137) (n := 0) dX7_init_137 rfl ?_
  refine gf_X7_19 (pc := 138) rfl dX7_init_138 ?_
  refine sm_aload_n (pc := 141) (n := 0) dX7_init_141 rfl ?_
  refine gf_X7_19 (pc := 142) rfl dX7_init_142 ?_
  refine sm_mnaDI (pc := 145) wd_194 wd_46 dX7_init_145 ?_
  refine pf_X7_64 (pc := 149) rfl rfl dX7_init_149 ?_
  exact scX7_init_152 P
noncomputable def cX7_init_51 {d : Nat} (P : zP d) : zK d := (xald 0 (xald 0 (xgfI 23 1 (xnwa 0 (xpfR 23 5 (xald 0 (xald 0 (xgfI 23 1 (xnwa 0 (xpfR 23 6 (xald 0 (xald 0 (xgfI 23 1 (xnwa 0 (xpfR 23 7 (xald 0 (xald 0 (xgfI 23 1 (xnwa 0 (xpfR 23 8 (xald 0 (xald 0 (xgfI 23 1 (xpI 7 (cX7_init_98 P)))))))))))))))))))))))))
set_option maxRecDepth 100000 in
set_option maxHeartbeats 4000000 in
theorem scX7_init_51 {d : Nat} [zGh] (P : zP d) : zSim X_X7_init 12 P 51 (cX7_init_51 P) := by
  unfold cX7_init_51
  refine sm_aload_n (pc := 51) (n := 0) dX7_init_51 rfl ?_
  refine sm_aload_n (pc := 52) (n := 0) dX7_init_52 rfl ?_
  refine gf_X7_19 (pc := 53) rfl dX7_init_53 ?_
  refine sm_newI (pc := 56) dX7_init_56 wd_46 ?_
  refine pf_X7_41 (pc := 58) rfl rfl dX7_init_58 ?_
  refine sm_aload_n (pc := 61) (n := 0) dX7_init_61 rfl ?_
  refine sm_aload_n (pc := 62) (n := 0) dX7_init_62 rfl ?_
  refine gf_X7_19 (pc := 63) rfl dX7_init_63 ?_
  refine sm_newI (pc := 66) dX7_init_66 wd_46 ?_
  refine pf_X7_44 (pc := 68) rfl rfl dX7_init_68 ?_
  refine sm_aload_n (pc := 71) (n := 0) dX7_init_71 rfl ?_
  refine sm_aload_n (pc := 72) (n := 0) dX7_init_72 rfl ?_
  refine gf_X7_19 (pc := 73) rfl dX7_init_73 ?_
  refine sm_newI (pc := 76) dX7_init_76 wd_46 ?_
  refine pf_X7_47 (pc := 78) rfl rfl dX7_init_78 ?_
  refine sm_aload_n (pc := 81) (n := 0) dX7_init_81 rfl ?_
  refine sm_aload_n (pc := 82) (n := 0) dX7_init_82 rfl ?_
  refine gf_X7_19 (pc := 83) rfl dX7_init_83 ?_
  refine sm_newI (pc := 86) dX7_init_86 wd_46 ?_
  refine pf_X7_50 (pc := 88) rfl rfl dX7_init_88 ?_
  refine sm_aload_n (pc := 91) (n := 0) dX7_init_91 rfl ?_
  refine sm_aload_n (pc := 92) (n := 0) dX7_init_92 rfl ?_
  refine gf_X7_19 (pc := 93) rfl dX7_init_93 ?_
  refine sm_bipush (pc := 96) dX7_init_96 zc_b_7 ?_
  exact scX7_init_98 P
noncomputable def b_X7_init {d : Nat} (P : zP d) : zK d := (xald 0 (xobj (xald 0 (xild 1 (xpfI 23 0 (xald 0 (xst ztb1 1 (xpfI 23 1 (xald 0 (xald 0 (xgfI 23 1 (xnwa 5 (xpfR 23 3 (xald 0 (xcV 23 1 720 67000 f_X7_makeShapes (xald 0 (xild 1 (xcS 1 0 0 f_X8_factorialOf (xpfI 23 2 (xald 0 (xald 0 (xgfI 23 1 (xnwa 0 (xpfR 23 4 (cX7_init_51 P)))))))))))))))))))))))))
set_option maxRecDepth 100000 in
set_option maxHeartbeats 4000000 in
theorem s_X7_init {d : Nat} [zGh] (P : zP d) : zSim X_X7_init 12 P 0 (b_X7_init P) := by
  unfold b_X7_init
  refine sm_aload_n (pc := 0) (n := 0) dX7_init_0 rfl ?_
  refine sm_objinit (pc := 1) wd_51 wd_21 wd_22 (by decide) dX7_init_1 ?_
  refine sm_aload_n (pc := 4) (n := 0) dX7_init_4 rfl ?_
  refine sm_iload_n (pc := 5) (n := 1) dX7_init_5 rfl ?_
  refine pf_X7_9 (pc := 6) rfl rfl dX7_init_6 ?_
  refine sm_aload_n (pc := 9) (n := 0) dX7_init_9 rfl ?_
  refine sm_st (pc := 10) (C := RX7) (nm := "PARTITIONS") (tb := ztb1) (n := 1) (l2 := 1) rfl (fun _ _ h => h.1) wd_52 dX7_init_10 (fun hx hb hl kk => lv_iload_n hx hb dX7_init_13 rfl hl kk) dX7_init_14 ?_
  refine pf_X7_19 (pc := 15) rfl rfl dX7_init_15 ?_
  refine sm_aload_n (pc := 18) (n := 0) dX7_init_18 rfl ?_
  refine sm_aload_n (pc := 19) (n := 0) dX7_init_19 rfl ?_
  refine gf_X7_19 (pc := 20) rfl dX7_init_20 ?_
  refine sm_anewarray (pc := 23) (kc := 5) (C := RX4) (by decide) (by decide) (fun _ => rfl) wd_54 (fun _ h => h.1) dX7_init_23 ?_
  refine pf_X7_24 (pc := 26) rfl rfl dX7_init_26 ?_
  refine sm_aload_n (pc := 29) (n := 0) dX7_init_29 rfl ?_
  refine sm_cV (pc := 30) (ci := 7) (n := 1) (mc := 720) (ms := 67000) rfl m_X7_makeShapes (cr_X7_28 (X := X_X7_init) (fr := 12) (frc := 11) (pc := 30) (mc := 720) (ms := 67000) rfl (by decide) dX7_init_30) ?_
  refine sm_aload_n (pc := 33) (n := 0) dX7_init_33 rfl ?_
  refine sm_iload_n (pc := 34) (n := 1) dX7_init_34 rfl ?_
  refine sm_cS (pc := 35) (n := 1) (mc := 0) (ms := 0) m_X8_factorialOf (cr_X7_31 (X := X_X7_init) (fr := 12) (frc := 1) (pc := 35) (mc := 0) (ms := 0) rfl (by decide) dX7_init_35) ?_
  refine pf_X7_35 (pc := 38) rfl rfl dX7_init_38 ?_
  refine sm_aload_n (pc := 41) (n := 0) dX7_init_41 rfl ?_
  refine sm_aload_n (pc := 42) (n := 0) dX7_init_42 rfl ?_
  refine gf_X7_19 (pc := 43) rfl dX7_init_43 ?_
  refine sm_newI (pc := 46) dX7_init_46 wd_46 ?_
  refine pf_X7_38 (pc := 48) rfl rfl dX7_init_48 ?_
  exact scX7_init_51 P
noncomputable def f_X7_init {d : Nat} : List zV → zH d → zP d → Bool := zfn 3 b_X7_init
theorem m_X7_init {d : Nat} : zMet (d := d) X_X7_init yX7_init 12 f_X7_init := zmet_mk (X := X_X7_init) (by decide) rfl rfl s_X7_init

abbrev X_X0_isSameCore : zM := (RX0, cX0_isSameCore, 3, (some .boolean), "isSameCore")
noncomputable def bX0_isSameCore_31 {d : Nat} (P : zP d) : zK d := (xpI 1 (xzret P))
set_option maxRecDepth 100000 in
set_option maxHeartbeats 4000000 in
theorem sbX0_isSameCore_31 {d : Nat} [zGh] (P : zP d) : zSim X_X0_isSameCore 1 P 31 (bX0_isSameCore_31 P) := by
  unfold bX0_isSameCore_31
  refine sm_iconst (pc := 31) dX0_isSameCore_31 zc_i_1 ?_
  exact sm_zreturn (pc := 32) dX0_isSameCore_32 rfl
noncomputable def lX0_isSameCore_2 {d : Nat} (P : zP d) (r2 : zK d) : zK d := (xild 2 (xald 0 (xlen (xjoin (bX0_isSameCore_31 P) (fun j31 => (xcmp tge j31 (xild 2 (xald 1 (xlen (xcmp tge j31 (xald 0 (xild 2 (xald1 0 (xald 1 (xild 2 (xald1 0 (xcmp Nat.beq (xinc 2 1 r2) (xpI 0 (xzret P)))))))))))))))))))
set_option maxRecDepth 100000 in
set_option maxHeartbeats 4000000 in
theorem slX0_isSameCore_2 {d : Nat} [zGh] (P : zP d) (r2 : zK d) (hr2 : zSim X_X0_isSameCore 1 P 2 r2) : zSim X_X0_isSameCore 1 P 2 (lX0_isSameCore_2 P r2) := by
  unfold lX0_isSameCore_2
  refine sm_iload_n (pc := 2) (n := 2) dX0_isSameCore_2 rfl ?_
  refine sm_aload_n (pc := 3) (n := 0) dX0_isSameCore_3 rfl ?_
  refine sm_arraylength (pc := 4) dX0_isSameCore_4 ?_
  refine sm_join (pc := 5) (pc' := 31) (sbX0_isSameCore_31 P) (fun j31 hj31 => ?_)
  refine sm_icmp_ge (pc := 5) (tgt := 31) dX0_isSameCore_5 (by decide) ?_ ?_
  · skip
    exact hj31
  · skip
    refine sm_iload_n (pc := 8) (n := 2) dX0_isSameCore_8 rfl ?_
    refine sm_aload_n (pc := 9) (n := 1) dX0_isSameCore_9 rfl ?_
    refine sm_arraylength (pc := 10) dX0_isSameCore_10 ?_
    refine sm_icmp_ge (pc := 11) (tgt := 31) dX0_isSameCore_11 (by decide) ?_ ?_
    · skip
      exact hj31
    · skip
      refine sm_aload_n (pc := 14) (n := 0) dX0_isSameCore_14 rfl ?_
      refine sm_iload_n (pc := 15) (n := 2) dX0_isSameCore_15 rfl ?_
      refine sm_iaload (pc := 16) dX0_isSameCore_16 ?_
      refine sm_aload_n (pc := 17) (n := 1) dX0_isSameCore_17 rfl ?_
      refine sm_iload_n (pc := 18) (n := 2) dX0_isSameCore_18 rfl ?_
      refine sm_iaload (pc := 19) dX0_isSameCore_19 ?_
      refine sm_icmp_eq (pc := 20) (tgt := 25) dX0_isSameCore_20 (by decide) ?_ ?_
      · skip
        refine sm_iinc (pc := 25) (n := 2) dX0_isSameCore_25 zc_i_1 ?_
        refine sm_goto (pc := 28) (tgt := 2) dX0_isSameCore_28 (by decide) ?_
        exact hr2
      · skip
        refine sm_iconst (pc := 23) dX0_isSameCore_23 zc_i_0 ?_
        exact sm_zreturn (pc := 24) dX0_isSameCore_24 rfl
noncomputable def b_X0_isSameCore {d : Nat} (P : zP d) : zK d := (xpI 0 (xist 2 (xloop (fun r2 => (lX0_isSameCore_2 P r2)) 100000)))
set_option maxRecDepth 100000 in
set_option maxHeartbeats 4000000 in
theorem s_X0_isSameCore {d : Nat} [zGh] (P : zP d) : zSim X_X0_isSameCore 1 P 0 (b_X0_isSameCore P) := by
  unfold b_X0_isSameCore
  refine sm_iconst (pc := 0) dX0_isSameCore_0 zc_i_0 ?_
  refine sm_istore_n (pc := 1) (n := 2) dX0_isSameCore_1 rfl ?_
  exact sm_loop (fun r2 hr2 => slX0_isSameCore_2 P r2 hr2) _
noncomputable def f_X0_isSameCore {d : Nat} : List zV → zH d → zP d → Bool := zfn 3 b_X0_isSameCore
theorem m_X0_isSameCore {d : Nat} : zMet (d := d) X_X0_isSameCore yX0_isSameCore 1 f_X0_isSameCore := zmet_mk (X := X_X0_isSameCore) (by decide) rfl rfl s_X0_isSameCore

abbrev X_X0_powerInFactorial : zM := (RX0, cX0_powerInFactorial, 5, (some .int), "powerInFactorial")
noncomputable def bX0_powerInFactorial_36 {d : Nat} (P : zP d) (r4 : zK d) : zK d := (xild 3 (xild 0 (xbin zadd (xist 3 r4))))
set_option maxRecDepth 100000 in
set_option maxHeartbeats 4000000 in
theorem sbX0_powerInFactorial_36 {d : Nat} [zGh] (P : zP d) (r4 : zK d) (hr4 : zSim X_X0_powerInFactorial 1 P 4 r4) : zSim X_X0_powerInFactorial 1 P 36 (bX0_powerInFactorial_36 P r4) := by
  unfold bX0_powerInFactorial_36
  refine sm_iload_n (pc := 36) (n := 3) dX0_powerInFactorial_36 rfl ?_
  refine sm_iload_n (pc := 37) (n := 0) dX0_powerInFactorial_37 rfl ?_
  refine sm_iadd (pc := 38) dX0_powerInFactorial_38 ?_
  refine sm_istore_n (pc := 39) (n := 3) dX0_powerInFactorial_39 rfl ?_
  refine sm_goto (pc := 40) (tgt := 4) dX0_powerInFactorial_40 (by decide) ?_
  exact hr4
noncomputable def lX0_powerInFactorial_12 {d : Nat} (P : zP d) (r12 : zK d) (r4 : zK d) : zK d := (xild 4 (xjoin (bX0_powerInFactorial_36 P r4) (fun j36 => (xif0 t0le j36 (xild 4 (xild 0 (xbinN zrem (xif0 t0eq (xild 4 (xild 0 (xbinN zdiv (xist 4 (xinc 2 1 r12))))) j36))))))))
set_option maxRecDepth 100000 in
set_option maxHeartbeats 4000000 in
theorem slX0_powerInFactorial_12 {d : Nat} [zGh] (P : zP d) (r12 : zK d) (r4 : zK d) (hr12 : zSim X_X0_powerInFactorial 1 P 12 r12) (hr4 : zSim X_X0_powerInFactorial 1 P 4 r4) : zSim X_X0_powerInFactorial 1 P 12 (lX0_powerInFactorial_12 P r12 r4) := by
  unfold lX0_powerInFactorial_12
  refine sm_iload (pc := 12) (n := 4) dX0_powerInFactorial_12 ?_
  refine sm_join (pc := 14) (pc' := 36) (sbX0_powerInFactorial_36 P r4 hr4) (fun j36 hj36 => ?_)
  refine sm_if_le (pc := 14) (tgt := 36) dX0_powerInFactorial_14 (by decide) ?_ ?_
  · skip
    exact hj36
  · skip
    refine sm_iload (pc := 17) (n := 4) dX0_powerInFactorial_17 ?_
    refine sm_iload_n (pc := 19) (n := 0) dX0_powerInFactorial_19 rfl ?_
    refine sm_irem (pc := 20) dX0_powerInFactorial_20 ?_
    refine sm_if_ne (pc := 21) (tgt := 36) dX0_powerInFactorial_21 (by decide) ?_ ?_
    · skip
      exact hj36
    · skip
      refine sm_iload (pc := 24) (n := 4) dX0_powerInFactorial_24 ?_
      refine sm_iload_n (pc := 26) (n := 0) dX0_powerInFactorial_26 rfl ?_
      refine sm_idiv (pc := 27) dX0_powerInFactorial_27 ?_
      refine sm_istore (pc := 28) (n := 4) dX0_powerInFactorial_28 ?_
      refine sm_iinc (pc := 30) (n := 2) dX0_powerInFactorial_30 zc_i_1 ?_
      refine sm_goto (pc := 33) (tgt := 12) dX0_powerInFactorial_33 (by decide) ?_
      exact hr12
noncomputable def lX0_powerInFactorial_4 {d : Nat} (P : zP d) (r4 : zK d) : zK d := (xild 3 (xild 1 (xcmp tle (xild 3 (xist 4 (xloop (fun r12 => (lX0_powerInFactorial_12 P r12 r4)) 100000))) (xild 2 (xiret P)))))
set_option maxRecDepth 100000 in
set_option maxHeartbeats 4000000 in
theorem slX0_powerInFactorial_4 {d : Nat} [zGh] (P : zP d) (r4 : zK d) (hr4 : zSim X_X0_powerInFactorial 1 P 4 r4) : zSim X_X0_powerInFactorial 1 P 4 (lX0_powerInFactorial_4 P r4) := by
  unfold lX0_powerInFactorial_4
  refine sm_iload_n (pc := 4) (n := 3) dX0_powerInFactorial_4 rfl ?_
  refine sm_iload_n (pc := 5) (n := 1) dX0_powerInFactorial_5 rfl ?_
  refine sm_icmp_gt (pc := 6) (tgt := 43) dX0_powerInFactorial_6 (by decide) ?_ ?_
  · skip
    refine sm_iload_n (pc := 43) (n := 2) dX0_powerInFactorial_43 rfl ?_
    exact sm_ireturn (pc := 44) dX0_powerInFactorial_44 rfl
  · skip
    refine sm_iload_n (pc := 9) (n := 3) dX0_powerInFactorial_9 rfl ?_
    refine sm_istore (pc := 10) (n := 4) dX0_powerInFactorial_10 ?_
    exact sm_loop (fun r12 hr12 => slX0_powerInFactorial_12 P r12 r4 hr12 hr4) _
noncomputable def b_X0_powerInFactorial {d : Nat} (P : zP d) : zK d := (xpI 0 (xist 2 (xild 0 (xist 3 (xloop (fun r4 => (lX0_powerInFactorial_4 P r4)) 100000)))))
set_option maxRecDepth 100000 in
set_option maxHeartbeats 4000000 in
theorem s_X0_powerInFactorial {d : Nat} [zGh] (P : zP d) : zSim X_X0_powerInFactorial 1 P 0 (b_X0_powerInFactorial P) := by
  unfold b_X0_powerInFactorial
  refine sm_iconst (pc := 0) dX0_powerInFactorial_0 zc_i_0 ?_
  refine sm_istore_n (pc := 1) (n := 2) dX0_powerInFactorial_1 rfl ?_
  refine sm_iload_n (pc := 2) (n := 0) dX0_powerInFactorial_2 rfl ?_
  refine sm_istore_n (pc := 3) (n := 3) dX0_powerInFactorial_3 rfl ?_
  exact sm_loop (fun r4 hr4 => slX0_powerInFactorial_4 P r4 hr4) _
noncomputable def f_X0_powerInFactorial {d : Nat} : List zV → zH d → zP d → Bool := zfn 5 b_X0_powerInFactorial
theorem m_X0_powerInFactorial {d : Nat} : zMet (d := d) X_X0_powerInFactorial yX0_powerInFactorial 1 f_X0_powerInFactorial := zmet_mk (X := X_X0_powerInFactorial) (by decide) rfl rfl s_X0_powerInFactorial

abbrev X_X0_readCore : zM := (RX0, cX0_readCore, 6, none, "readCore")
noncomputable def bX0_readCore_50 {d : Nat} (P : zP d) : zK d := (xvret P)
set_option maxRecDepth 100000 in
set_option maxHeartbeats 4000000 in
theorem sbX0_readCore_50 {d : Nat} [zGh] (P : zP d) : zSim X_X0_readCore 1 P 50 (bX0_readCore_50 P) := by
  unfold bX0_readCore_50
  exact sm_vreturn (pc := 50) dX0_readCore_50 rfl
noncomputable def bX0_readCore_44 {d : Nat} (P : zP d) (r11 : zK d) : zK d := (xinc 5 4294967295 r11)
set_option maxRecDepth 100000 in
set_option maxHeartbeats 4000000 in
theorem sbX0_readCore_44 {d : Nat} [zGh] (P : zP d) (r11 : zK d) (hr11 : zSim X_X0_readCore 1 P 11 r11) : zSim X_X0_readCore 1 P 44 (bX0_readCore_44 P r11) := by
  unfold bX0_readCore_44
  refine sm_iinc (pc := 44) (n := 5) dX0_readCore_44 zc_i_m1 ?_
  refine sm_goto (pc := 47) (tgt := 11) dX0_readCore_47 (by decide) ?_
  exact hr11
noncomputable def lX0_readCore_11 {d : Nat} (P : zP d) (r11 : zK d) : zK d := (xild 5 (xjoin (bX0_readCore_50 P) (fun j50 => (xif0 t0ge (xild 4 (xald 2 (xlen (xcmp tge j50 (xald 0 (xild 5 (xald1 1 (xjoin (bX0_readCore_44 P r11) (fun j44 => (xif0 t0eq j44 (xinc 3 4294967295 (xald 2 (xild 4 (xild 5 (xild 3 (xbin zsub (xast1 0 (fun v => v) (xinc 4 1 j44)))))))))))))))))) j50))))
set_option maxRecDepth 100000 in
set_option maxHeartbeats 4000000 in
theorem slX0_readCore_11 {d : Nat} [zGh] (P : zP d) (r11 : zK d) (hr11 : zSim X_X0_readCore 1 P 11 r11) : zSim X_X0_readCore 1 P 11 (lX0_readCore_11 P r11) := by
  unfold lX0_readCore_11
  refine sm_iload (pc := 11) (n := 5) dX0_readCore_11 ?_
  refine sm_join (pc := 13) (pc' := 50) (sbX0_readCore_50 P) (fun j50 hj50 => ?_)
  refine sm_if_lt (pc := 13) (tgt := 50) dX0_readCore_13 (by decide) ?_ ?_
  · skip
    exact hj50
  · skip
    refine sm_iload (pc := 16) (n := 4) dX0_readCore_16 ?_
    refine sm_aload_n (pc := 18) (n := 2) dX0_readCore_18 rfl ?_
    refine sm_arraylength (pc := 19) dX0_readCore_19 ?_
    refine sm_icmp_ge (pc := 20) (tgt := 50) dX0_readCore_20 (by decide) ?_ ?_
    · skip
      exact hj50
    · skip
      refine sm_aload_n (pc := 23) (n := 0) dX0_readCore_23 rfl ?_
      refine sm_iload (pc := 24) (n := 5) dX0_readCore_24 ?_
      refine sm_baload (pc := 26) dX0_readCore_26 ?_
      refine sm_join (pc := 27) (pc' := 44) (sbX0_readCore_44 P r11 hr11) (fun j44 hj44 => ?_)
      refine sm_if_eq (pc := 27) (tgt := 44) dX0_readCore_27 (by decide) ?_ ?_
      · skip
        exact hj44
      · skip
        refine sm_iinc (pc := 30) (n := 3) dX0_readCore_30 zc_i_m1 ?_
        refine sm_aload_n (pc := 33) (n := 2) dX0_readCore_33 rfl ?_
        refine sm_iload (pc := 34) (n := 4) dX0_readCore_34 ?_
        refine sm_iload (pc := 36) (n := 5) dX0_readCore_36 ?_
        refine sm_iload_n (pc := 38) (n := 3) dX0_readCore_38 rfl ?_
        refine sm_isub (pc := 39) dX0_readCore_39 ?_
        refine sm_iastore (pc := 40) dX0_readCore_40 ?_
        refine sm_iinc (pc := 41) (n := 4) dX0_readCore_41 zc_i_1 ?_
        exact hj44
noncomputable def b_X0_readCore {d : Nat} (P : zP d) : zK d := (xild 1 (xist 3 (xpI 0 (xist 4 (xald 0 (xlen (xpI 1 (xbin zsub (xist 5 (xloop (fun r11 => (lX0_readCore_11 P r11)) 100000))))))))))
set_option maxRecDepth 100000 in
set_option maxHeartbeats 4000000 in
theorem s_X0_readCore {d : Nat} [zGh] (P : zP d) : zSim X_X0_readCore 1 P 0 (b_X0_readCore P) := by
  unfold b_X0_readCore
  refine sm_iload_n (pc := 0) (n := 1) dX0_readCore_0 rfl ?_
  refine sm_istore_n (pc := 1) (n := 3) dX0_readCore_1 rfl ?_
  refine sm_iconst (pc := 2) dX0_readCore_2 zc_i_0 ?_
  refine sm_istore (pc := 3) (n := 4) dX0_readCore_3 ?_
  refine sm_aload_n (pc := 5) (n := 0) dX0_readCore_5 rfl ?_
  refine sm_arraylength (pc := 6) dX0_readCore_6 ?_
  refine sm_iconst (pc := 7) dX0_readCore_7 zc_i_1 ?_
  refine sm_isub (pc := 8) dX0_readCore_8 ?_
  refine sm_istore (pc := 9) (n := 5) dX0_readCore_9 ?_
  exact sm_loop (fun r11 hr11 => slX0_readCore_11 P r11 hr11) _
noncomputable def f_X0_readCore {d : Nat} : List zV → zH d → zP d → Bool := zfn 6 b_X0_readCore
theorem m_X0_readCore {d : Nat} : zMet (d := d) X_X0_readCore yX0_readCore 1 f_X0_readCore := zmet_mk (X := X_X0_readCore) (by decide) rfl rfl s_X0_readCore

abbrev X_X0_slide : zM := (RX0, cX0_slide, 6, (some .int), "slide")
noncomputable def bX0_slide_107 {d : Nat} (P : zP d) (r50 : zK d) : zK d := (xinc 4 1 r50)
set_option maxRecDepth 100000 in
set_option maxHeartbeats 4000000 in
theorem sbX0_slide_107 {d : Nat} [zGh] (P : zP d) (r50 : zK d) (hr50 : zSim X_X0_slide 1 P 50 r50) : zSim X_X0_slide 1 P 107 (bX0_slide_107 P r50) := by
  unfold bX0_slide_107
  refine sm_iinc (pc := 107) (n := 4) dX0_slide_107 zc_i_1 ?_
  refine sm_goto (pc := 110) (tgt := 50) dX0_slide_110 (by decide) ?_
  exact hr50
noncomputable def cX0_slide_97 {d : Nat} (P : zP d) (r61 : zK d) : zK d := (xild 1 (xbin zsub (xist 5 (xinc 3 1 r61))))
set_option maxRecDepth 100000 in
set_option maxHeartbeats 4000000 in
theorem scX0_slide_97 {d : Nat} [zGh] (P : zP d) (r61 : zK d) (hr61 : zSim X_X0_slide 1 P 61 r61) : zSim X_X0_slide 1 P 97 (cX0_slide_97 P r61) := by
  unfold cX0_slide_97
  refine sm_iload_n (pc := 97) (n := 1) dX0_slide_97 rfl ?_
  refine sm_isub (pc := 98) dX0_slide_98 ?_
  refine sm_istore (pc := 99) (n := 5) dX0_slide_99 ?_
  refine sm_iinc (pc := 101) (n := 3) dX0_slide_101 zc_i_1 ?_
  refine sm_goto (pc := 104) (tgt := 61) dX0_slide_104 (by decide) ?_
  exact hr61
noncomputable def lX0_slide_61 {d : Nat} (P : zP d) (r50 : zK d) (r61 : zK d) : zK d := (xild 5 (xild 1 (xjoin (bX0_slide_107 P r50) (fun j107 => (xcmp tge (xald 2 (xild 5 (xald1 1 (xif0 t0eq j107 (xald 2 (xild 5 (xild 1 (xbin zsub (xald1 1 (xif0 t0eq (xald 2 (xild 5 (xpI 0 (xast1 1 (fun v => zand v 1) (xald 2 (xild 5 (xild 1 (xbin zsub (xpI 1 (xast1 1 (fun v => zand v 1) (xild 5 (cX0_slide_97 P r61)))))))))))) j107)))))))))) j107)))))
set_option maxRecDepth 100000 in
set_option maxHeartbeats 4000000 in
theorem slX0_slide_61 {d : Nat} [zGh] (P : zP d) (r50 : zK d) (r61 : zK d) (hr50 : zSim X_X0_slide 1 P 50 r50) (hr61 : zSim X_X0_slide 1 P 61 r61) : zSim X_X0_slide 1 P 61 (lX0_slide_61 P r50 r61) := by
  unfold lX0_slide_61
  refine sm_iload (pc := 61) (n := 5) dX0_slide_61 ?_
  refine sm_iload_n (pc := 63) (n := 1) dX0_slide_63 rfl ?_
  refine sm_join (pc := 64) (pc' := 107) (sbX0_slide_107 P r50 hr50) (fun j107 hj107 => ?_)
  refine sm_icmp_lt (pc := 64) (tgt := 107) dX0_slide_64 (by decide) ?_ ?_
  · skip
    exact hj107
  · skip
    refine sm_aload_n (pc := 67) (n := 2) dX0_slide_67 rfl ?_
    refine sm_iload (pc := 68) (n := 5) dX0_slide_68 ?_
    refine sm_baload (pc := 70) dX0_slide_70 ?_
    refine sm_if_eq (pc := 71) (tgt := 107) dX0_slide_71 (by decide) ?_ ?_
    · skip
      exact hj107
    · skip
      refine sm_aload_n (pc := 74) (n := 2) dX0_slide_74 rfl ?_
      refine sm_iload (pc := 75) (n := 5) dX0_slide_75 ?_
      refine sm_iload_n (pc := 77) (n := 1) dX0_slide_77 rfl ?_
      refine sm_isub (pc := 78) dX0_slide_78 ?_
      refine sm_baload (pc := 79) dX0_slide_79 ?_
      refine sm_if_ne (pc := 80) (tgt := 107) dX0_slide_80 (by decide) ?_ ?_
      · skip
        exact hj107
      · skip
        refine sm_aload_n (pc := 83) (n := 2) dX0_slide_83 rfl ?_
        refine sm_iload (pc := 84) (n := 5) dX0_slide_84 ?_
        refine sm_iconst (pc := 86) dX0_slide_86 zc_i_0 ?_
        refine sm_bastore (pc := 87) dX0_slide_87 ?_
        refine sm_aload_n (pc := 88) (n := 2) dX0_slide_88 rfl ?_
        refine sm_iload (pc := 89) (n := 5) dX0_slide_89 ?_
        refine sm_iload_n (pc := 91) (n := 1) dX0_slide_91 rfl ?_
        refine sm_isub (pc := 92) dX0_slide_92 ?_
        refine sm_iconst (pc := 93) dX0_slide_93 zc_i_1 ?_
        refine sm_bastore (pc := 94) dX0_slide_94 ?_
        refine sm_iload (pc := 95) (n := 5) dX0_slide_95 ?_
        exact scX0_slide_97 P r61 hr61
noncomputable def lX0_slide_50 {d : Nat} (P : zP d) (r50 : zK d) : zK d := (xild 4 (xald 2 (xlen (xcmp tge (xild 3 (xiret P)) (xild 4 (xist 5 (xloop (fun r61 => (lX0_slide_61 P r50 r61)) 100000)))))))
set_option maxRecDepth 100000 in
set_option maxHeartbeats 4000000 in
theorem slX0_slide_50 {d : Nat} [zGh] (P : zP d) (r50 : zK d) (hr50 : zSim X_X0_slide 1 P 50 r50) : zSim X_X0_slide 1 P 50 (lX0_slide_50 P r50) := by
  unfold lX0_slide_50
  refine sm_iload (pc := 50) (n := 4) dX0_slide_50 ?_
  refine sm_aload_n (pc := 52) (n := 2) dX0_slide_52 rfl ?_
  refine sm_arraylength (pc := 53) dX0_slide_53 ?_
  refine sm_icmp_ge (pc := 54) (tgt := 113) dX0_slide_54 (by decide) ?_ ?_
  · skip
    refine sm_iload_n (pc := 113) (n := 3) dX0_slide_113 rfl ?_
    exact sm_ireturn (pc := 114) dX0_slide_114 rfl
  · skip
    refine sm_iload (pc := 57) (n := 4) dX0_slide_57 ?_
    refine sm_istore (pc := 59) (n := 5) dX0_slide_59 ?_
    exact sm_loop (fun r61 hr61 => slX0_slide_61 P r50 r61 hr50 hr61) _
noncomputable def lX0_slide_20 {d : Nat} (P : zP d) (r20 : zK d) : zK d := (xild 3 (xald 0 (xlen (xcmp tge (xpI 0 (xist 3 (xild 1 (xist 4 (xloop (fun r50 => (lX0_slide_50 P r50)) 100000))))) (xald 2 (xald 0 (xild 3 (xald1 0 (xald 0 (xlen (xbin zadd (xpI 1 (xbin zsub (xild 3 (xbin zsub (xpI 1 (xast1 1 (fun v => zand v 1) (xinc 3 1 r20))))))))))))))))))
set_option maxRecDepth 100000 in
set_option maxHeartbeats 4000000 in
theorem slX0_slide_20 {d : Nat} [zGh] (P : zP d) (r20 : zK d) (hr20 : zSim X_X0_slide 1 P 20 r20) : zSim X_X0_slide 1 P 20 (lX0_slide_20 P r20) := by
  unfold lX0_slide_20
  refine sm_iload_n (pc := 20) (n := 3) dX0_slide_20 rfl ?_
  refine sm_aload_n (pc := 21) (n := 0) dX0_slide_21 rfl ?_
  refine sm_arraylength (pc := 22) dX0_slide_22 ?_
  refine sm_icmp_ge (pc := 23) (tgt := 45) dX0_slide_23 (by decide) ?_ ?_
  · skip
    refine sm_iconst (pc := 45) dX0_slide_45 zc_i_0 ?_
    refine sm_istore_n (pc := 46) (n := 3) dX0_slide_46 rfl ?_
    refine sm_iload_n (pc := 47) (n := 1) dX0_slide_47 rfl ?_
    refine sm_istore (pc := 48) (n := 4) dX0_slide_48 ?_
    exact sm_loop (fun r50 hr50 => slX0_slide_50 P r50 hr50) _
  · skip
    refine sm_aload_n (pc := 26) (n := 2) dX0_slide_26 rfl ?_
    refine sm_aload_n (pc := 27) (n := 0) dX0_slide_27 rfl ?_
    refine sm_iload_n (pc := 28) (n := 3) dX0_slide_28 rfl ?_
    refine sm_iaload (pc := 29) dX0_slide_29 ?_
    refine sm_aload_n (pc := 30) (n := 0) dX0_slide_30 rfl ?_
    refine sm_arraylength (pc := 31) dX0_slide_31 ?_
    refine sm_iadd (pc := 32) dX0_slide_32 ?_
    refine sm_iconst (pc := 33) dX0_slide_33 zc_i_1 ?_
    refine sm_isub (pc := 34) dX0_slide_34 ?_
    refine sm_iload_n (pc := 35) (n := 3) dX0_slide_35 rfl ?_
    refine sm_isub (pc := 36) dX0_slide_36 ?_
    refine sm_iconst (pc := 37) dX0_slide_37 zc_i_1 ?_
    refine sm_bastore (pc := 38) dX0_slide_38 ?_
    refine sm_iinc (pc := 39) (n := 3) dX0_slide_39 zc_i_1 ?_
    refine sm_goto (pc := 42) (tgt := 20) dX0_slide_42 (by decide) ?_
    exact hr20
noncomputable def lX0_slide_2 {d : Nat} (P : zP d) (r2 : zK d) : zK d := (xild 3 (xald 2 (xlen (xcmp tge (xpI 0 (xist 3 (xloop (fun r20 => (lX0_slide_20 P r20)) 100000))) (xald 2 (xild 3 (xpI 0 (xast1 1 (fun v => zand v 1) (xinc 3 1 r2)))))))))
set_option maxRecDepth 100000 in
set_option maxHeartbeats 4000000 in
theorem slX0_slide_2 {d : Nat} [zGh] (P : zP d) (r2 : zK d) (hr2 : zSim X_X0_slide 1 P 2 r2) : zSim X_X0_slide 1 P 2 (lX0_slide_2 P r2) := by
  unfold lX0_slide_2
  refine sm_iload_n (pc := 2) (n := 3) dX0_slide_2 rfl ?_
  refine sm_aload_n (pc := 3) (n := 2) dX0_slide_3 rfl ?_
  refine sm_arraylength (pc := 4) dX0_slide_4 ?_
  refine sm_icmp_ge (pc := 5) (tgt := 18) dX0_slide_5 (by decide) ?_ ?_
  · skip
    refine sm_iconst (pc := 18) dX0_slide_18 zc_i_0 ?_
    refine sm_istore_n (pc := 19) (n := 3) dX0_slide_19 rfl ?_
    exact sm_loop (fun r20 hr20 => slX0_slide_20 P r20 hr20) _
  · skip
    refine sm_aload_n (pc := 8) (n := 2) dX0_slide_8 rfl ?_
    refine sm_iload_n (pc := 9) (n := 3) dX0_slide_9 rfl ?_
    refine sm_iconst (pc := 10) dX0_slide_10 zc_i_0 ?_
    refine sm_bastore (pc := 11) dX0_slide_11 ?_
    refine sm_iinc (pc := 12) (n := 3) dX0_slide_12 zc_i_1 ?_
    refine sm_goto (pc := 15) (tgt := 2) dX0_slide_15 (by decide) ?_
    exact hr2
noncomputable def b_X0_slide {d : Nat} (P : zP d) : zK d := (xpI 0 (xist 3 (xloop (fun r2 => (lX0_slide_2 P r2)) 100000)))
set_option maxRecDepth 100000 in
set_option maxHeartbeats 4000000 in
theorem s_X0_slide {d : Nat} [zGh] (P : zP d) : zSim X_X0_slide 1 P 0 (b_X0_slide P) := by
  unfold b_X0_slide
  refine sm_iconst (pc := 0) dX0_slide_0 zc_i_0 ?_
  refine sm_istore_n (pc := 1) (n := 3) dX0_slide_1 rfl ?_
  exact sm_loop (fun r2 hr2 => slX0_slide_2 P r2 hr2) _
noncomputable def f_X0_slide {d : Nat} : List zV → zH d → zP d → Bool := zfn 6 b_X0_slide
theorem m_X0_slide {d : Nat} : zMet (d := d) X_X0_slide yX0_slide 1 f_X0_slide := zmet_mk (X := X_X0_slide) (by decide) rfl rfl s_X0_slide

abbrev X_X0_join : zM := (RX0, cX0_join, 5, none, "join")
noncomputable def bX0_join_88 {d : Nat} (P : zP d) : zK d := (xald 0 (xgfR 16 2 (xild 1 (xild 4 (xast1 0 (fun v => v) (xald 0 (xgfR 16 5 (xild 4 (xdup2 (xald1 0 (xpI 1 (xbin zadd (xast1 0 (fun v => v) (xald 0 (xgfR 16 6 (xild 4 (xdup2 (xald1 0 (xild 3 (xcS 1 0 0 f_X8_bit (xbin zadd (xast1 0 (fun v => v) (xvret P)))))))))))))))))))))))
set_option maxRecDepth 100000 in
set_option maxHeartbeats 4000000 in
theorem sbX0_join_88 {d : Nat} [zGh] (P : zP d) : zSim X_X0_join 2 P 88 (bX0_join_88 P) := by
  unfold bX0_join_88
  refine sm_aload_n (pc := 88) (n := 0) dX0_join_88 rfl ?_
  refine gf_X0_29 (pc := 89) rfl dX0_join_89 ?_
  refine sm_iload_n (pc := 92) (n := 1) dX0_join_92 rfl ?_
  refine sm_iload (pc := 93) (n := 4) dX0_join_93 ?_
  refine sm_iastore (pc := 95) dX0_join_95 ?_
  refine sm_aload_n (pc := 96) (n := 0) dX0_join_96 rfl ?_
  refine gf_X0_35 (pc := 97) rfl dX0_join_97 ?_
  refine sm_iload (pc := 100) (n := 4) dX0_join_100 ?_
  refine sm_dup2 (pc := 102) dX0_join_102 ?_
  refine sm_iaload (pc := 103) dX0_join_103 ?_
  refine sm_iconst (pc := 104) dX0_join_104 zc_i_1 ?_
  refine sm_iadd (pc := 105) dX0_join_105 ?_
  refine sm_iastore (pc := 106) dX0_join_106 ?_
  refine sm_aload_n (pc := 107) (n := 0) dX0_join_107 rfl ?_
  refine gf_X0_38 (pc := 108) rfl dX0_join_108 ?_
  refine sm_iload (pc := 111) (n := 4) dX0_join_111 ?_
  refine sm_dup2 (pc := 113) dX0_join_113 ?_
  refine sm_iaload (pc := 114) dX0_join_114 ?_
  refine sm_iload_n (pc := 115) (n := 3) dX0_join_115 rfl ?_
  refine sm_cS (pc := 116) (n := 1) (mc := 0) (ms := 0) m_X8_bit (cr_X0_69 (X := X_X0_join) (fr := 2) (frc := 1) (pc := 116) (mc := 0) (ms := 0) rfl (by decide) dX0_join_116) ?_
  refine sm_iadd (pc := 119) dX0_join_119 ?_
  refine sm_iastore (pc := 120) dX0_join_120 ?_
  exact sm_vreturn (pc := 121) dX0_join_121 rfl
noncomputable def cX0_join_83 {d : Nat} (P : zP d) (j88 : zK d) : zK d := (xpI 1 (xbin zadd (xpfI 16 3 j88)))
set_option maxRecDepth 100000 in
set_option maxHeartbeats 4000000 in
theorem scX0_join_83 {d : Nat} [zGh] (P : zP d) (j88 : zK d) (hj88 : zSim X_X0_join 2 P 88 j88) : zSim X_X0_join 2 P 83 (cX0_join_83 P j88) := by
  unfold cX0_join_83
  refine sm_iconst (pc := 83) dX0_join_83 zc_i_1 ?_
  refine sm_iadd (pc := 84) dX0_join_84 ?_
  refine pf_X0_68 (pc := 85) rfl dX0_join_85 ?_
  exact hj88
noncomputable def bX0_join_42 {d : Nat} (P : zP d) : zK d := (xild 4 (xald 0 (xgfI 16 3 (xjoin (bX0_join_88 P) (fun j88 => (xcmp Nat.beq (xald 0 (xgfR 16 4 (xild 4 (xild 1 (xast1 0 (fun v => v) (xald 0 (xgfR 16 7 (xild 4 (xild 2 (xild 2 (xald 0 (xgfR 16 0 (xild 1 (xald1 0 (xbin zmul (xcS 2 0 0 f_X0_powerInFactorial (xast1 0 (fun v => v) (xald 0 (xdup (xgfI 16 3 (cX0_join_83 P j88))))))))))))))))))))) j88))))))
set_option maxRecDepth 100000 in
set_option maxHeartbeats 4000000 in
theorem sbX0_join_42 {d : Nat} [zGh] (P : zP d) : zSim X_X0_join 2 P 42 (bX0_join_42 P) := by
  unfold bX0_join_42
  refine sm_iload (pc := 42) (n := 4) dX0_join_42 ?_
  refine sm_aload_n (pc := 44) (n := 0) dX0_join_44 rfl ?_
  refine gf_X0_68 (pc := 45) rfl dX0_join_45 ?_
  refine sm_join (pc := 48) (pc' := 88) (sbX0_join_88 P) (fun j88 hj88 => ?_)
  refine sm_icmp_ne (pc := 48) (tgt := 88) dX0_join_48 (by decide) ?_ ?_
  · skip
    exact hj88
  · skip
    refine sm_aload_n (pc := 51) (n := 0) dX0_join_51 rfl ?_
    refine gf_X0_32 (pc := 52) rfl dX0_join_52 ?_
    refine sm_iload (pc := 55) (n := 4) dX0_join_55 ?_
    refine sm_iload_n (pc := 57) (n := 1) dX0_join_57 rfl ?_
    refine sm_iastore (pc := 58) dX0_join_58 ?_
    refine sm_aload_n (pc := 59) (n := 0) dX0_join_59 rfl ?_
    refine gf_X0_41 (pc := 60) rfl dX0_join_60 ?_
    refine sm_iload (pc := 63) (n := 4) dX0_join_63 ?_
    refine sm_iload_n (pc := 65) (n := 2) dX0_join_65 rfl ?_
    refine sm_iload_n (pc := 66) (n := 2) dX0_join_66 rfl ?_
    refine sm_aload_n (pc := 67) (n := 0) dX0_join_67 rfl ?_
    refine gf_X0_15 (pc := 68) rfl dX0_join_68 ?_
    refine sm_iload_n (pc := 71) (n := 1) dX0_join_71 rfl ?_
    refine sm_iaload (pc := 72) dX0_join_72 ?_
    refine sm_imul (pc := 73) dX0_join_73 ?_
    refine sm_cS (pc := 74) (n := 2) (mc := 0) (ms := 0) m_X0_powerInFactorial (cr_X0_77 (X := X_X0_join) (fr := 2) (frc := 1) (pc := 74) (mc := 0) (ms := 0) rfl (by decide) dX0_join_74) ?_
    refine sm_iastore (pc := 77) dX0_join_77 ?_
    refine sm_aload_n (pc := 78) (n := 0) dX0_join_78 rfl ?_
    refine sm_dup (pc := 79) dX0_join_79 ?_
    refine gf_X0_68 (pc := 80) rfl dX0_join_80 ?_
    exact scX0_join_83 P j88 hj88
noncomputable def lX0_join_3 {d : Nat} (P : zP d) (r3 : zK d) : zK d := (xild 4 (xald 0 (xgfI 16 3 (xjoin (bX0_join_42 P) (fun j42 => (xcmp tge j42 (xald 0 (xgfR 16 1 (xald 0 (xgfR 16 4 (xild 4 (xald1 0 (xaal (xald 0 (xgfR 16 1 (xild 1 (xaal (xcS 2 0 0 f_X0_isSameCore (xif0 t0eq (xinc 4 1 r3) j42)))))))))))))))))))
set_option maxRecDepth 100000 in
set_option maxHeartbeats 4000000 in
theorem slX0_join_3 {d : Nat} [zGh] (P : zP d) (r3 : zK d) (hr3 : zSim X_X0_join 2 P 3 r3) : zSim X_X0_join 2 P 3 (lX0_join_3 P r3) := by
  unfold lX0_join_3
  refine sm_iload (pc := 3) (n := 4) dX0_join_3 ?_
  refine sm_aload_n (pc := 5) (n := 0) dX0_join_5 rfl ?_
  refine gf_X0_68 (pc := 6) rfl dX0_join_6 ?_
  refine sm_join (pc := 9) (pc' := 42) (sbX0_join_42 P) (fun j42 hj42 => ?_)
  refine sm_icmp_ge (pc := 9) (tgt := 42) dX0_join_9 (by decide) ?_ ?_
  · skip
    exact hj42
  · skip
    refine sm_aload_n (pc := 12) (n := 0) dX0_join_12 rfl ?_
    refine gf_X0_26 (pc := 13) rfl dX0_join_13 ?_
    refine sm_aload_n (pc := 16) (n := 0) dX0_join_16 rfl ?_
    refine gf_X0_32 (pc := 17) rfl dX0_join_17 ?_
    refine sm_iload (pc := 20) (n := 4) dX0_join_20 ?_
    refine sm_iaload (pc := 22) dX0_join_22 ?_
    refine sm_aaload (pc := 23) dX0_join_23 ?_
    refine sm_aload_n (pc := 24) (n := 0) dX0_join_24 rfl ?_
    refine gf_X0_26 (pc := 25) rfl dX0_join_25 ?_
    refine sm_iload_n (pc := 28) (n := 1) dX0_join_28 rfl ?_
    refine sm_aaload (pc := 29) dX0_join_29 ?_
    refine sm_cS (pc := 30) (n := 2) (mc := 0) (ms := 0) m_X0_isSameCore (cr_X0_73 (X := X_X0_join) (fr := 2) (frc := 1) (pc := 30) (mc := 0) (ms := 0) rfl (by decide) dX0_join_30) ?_
    refine sm_if_ne (pc := 33) (tgt := 42) dX0_join_33 (by decide) ?_ ?_
    · skip
      exact hj42
    · skip
      refine sm_iinc (pc := 36) (n := 4) dX0_join_36 zc_i_1 ?_
      refine sm_goto (pc := 39) (tgt := 3) dX0_join_39 (by decide) ?_
      exact hr3
noncomputable def b_X0_join {d : Nat} (P : zP d) : zK d := (xpI 0 (xist 4 (xloop (fun r3 => (lX0_join_3 P r3)) 100000)))
set_option maxRecDepth 100000 in
set_option maxHeartbeats 4000000 in
theorem s_X0_join {d : Nat} [zGh] (P : zP d) : zSim X_X0_join 2 P 0 (b_X0_join P) := by
  unfold b_X0_join
  refine sm_iconst (pc := 0) dX0_join_0 zc_i_0 ?_
  refine sm_istore (pc := 1) (n := 4) dX0_join_1 ?_
  exact sm_loop (fun r3 hr3 => slX0_join_3 P r3 hr3) _
noncomputable def f_X0_join {d : Nat} : List zV → zH d → zP d → Bool := zfn 5 b_X0_join
theorem m_X0_join {d : Nat} : zMet (d := d) X_X0_join yX0_join 2 f_X0_join := zmet_mk (X := X_X0_join) (by decide) rfl rfl s_X0_join

abbrev X_X0_withoutDefect : zM := (RX0, cX0_withoutDefect, 3, (some .int), "withoutDefect")
noncomputable def bX0_withoutDefect_27 {d : Nat} (P : zP d) (r4 : zK d) : zK d := (xcS 1 0 0 f_X8_bit (xbin zadd (xist 1 (xinc 2 1 r4))))
set_option maxRecDepth 100000 in
set_option maxHeartbeats 4000000 in
theorem sbX0_withoutDefect_27 {d : Nat} [zGh] (P : zP d) (r4 : zK d) (hr4 : zSim X_X0_withoutDefect 2 P 4 r4) : zSim X_X0_withoutDefect 2 P 27 (bX0_withoutDefect_27 P r4) := by
  unfold bX0_withoutDefect_27
  refine sm_cS (pc := 27) (n := 1) (mc := 0) (ms := 0) m_X8_bit (cr_X0_69 (X := X_X0_withoutDefect) (fr := 2) (frc := 1) (pc := 27) (mc := 0) (ms := 0) rfl (by decide) dX0_withoutDefect_27) ?_
  refine sm_iadd (pc := 30) dX0_withoutDefect_30 ?_
  refine sm_istore_n (pc := 31) (n := 1) dX0_withoutDefect_31 rfl ?_
  refine sm_iinc (pc := 32) (n := 2) dX0_withoutDefect_32 zc_i_1 ?_
  refine sm_goto (pc := 35) (tgt := 4) dX0_withoutDefect_35 (by decide) ?_
  exact hr4
noncomputable def lX0_withoutDefect_4 {d : Nat} (P : zP d) (r4 : zK d) : zK d := (xild 2 (xald 0 (xgfI 16 3 (xcmp tge (xild 1 (xiret P)) (xild 1 (xald 0 (xgfR 16 7 (xild 2 (xald1 0 (xjoin (bX0_withoutDefect_27 P r4) (fun j27 => (xif0 t0eq (xpI 1 j27) (xpI 0 j27)))))))))))))
set_option maxRecDepth 100000 in
set_option maxHeartbeats 4000000 in
theorem slX0_withoutDefect_4 {d : Nat} [zGh] (P : zP d) (r4 : zK d) (hr4 : zSim X_X0_withoutDefect 2 P 4 r4) : zSim X_X0_withoutDefect 2 P 4 (lX0_withoutDefect_4 P r4) := by
  unfold lX0_withoutDefect_4
  refine sm_iload_n (pc := 4) (n := 2) dX0_withoutDefect_4 rfl ?_
  refine sm_aload_n (pc := 5) (n := 0) dX0_withoutDefect_5 rfl ?_
  refine gf_X0_68 (pc := 6) rfl dX0_withoutDefect_6 ?_
  refine sm_icmp_ge (pc := 9) (tgt := 38) dX0_withoutDefect_9 (by decide) ?_ ?_
  · skip
    refine sm_iload_n (pc := 38) (n := 1) dX0_withoutDefect_38 rfl ?_
    exact sm_ireturn (pc := 39) dX0_withoutDefect_39 rfl
  · skip
    refine sm_iload_n (pc := 12) (n := 1) dX0_withoutDefect_12 rfl ?_
    refine sm_aload_n (pc := 13) (n := 0) dX0_withoutDefect_13 rfl ?_
    refine gf_X0_41 (pc := 14) rfl dX0_withoutDefect_14 ?_
    refine sm_iload_n (pc := 17) (n := 2) dX0_withoutDefect_17 rfl ?_
    refine sm_iaload (pc := 18) dX0_withoutDefect_18 ?_
    refine sm_join (pc := 19) (pc' := 27) (sbX0_withoutDefect_27 P r4 hr4) (fun j27 hj27 => ?_)
    refine sm_if_ne (pc := 19) (tgt := 26) dX0_withoutDefect_19 (by decide) ?_ ?_
    · skip
      refine sm_iconst (pc := 26) dX0_withoutDefect_26 zc_i_0 ?_
      exact hj27
    · skip
      refine sm_iconst (pc := 22) dX0_withoutDefect_22 zc_i_1 ?_
      refine sm_goto (pc := 23) (tgt := 27) dX0_withoutDefect_23 (by decide) ?_
      exact hj27
noncomputable def b_X0_withoutDefect {d : Nat} (P : zP d) : zK d := (xpI 0 (xist 1 (xpI 0 (xist 2 (xloop (fun r4 => (lX0_withoutDefect_4 P r4)) 100000)))))
set_option maxRecDepth 100000 in
set_option maxHeartbeats 4000000 in
theorem s_X0_withoutDefect {d : Nat} [zGh] (P : zP d) : zSim X_X0_withoutDefect 2 P 0 (b_X0_withoutDefect P) := by
  unfold b_X0_withoutDefect
  refine sm_iconst (pc := 0) dX0_withoutDefect_0 zc_i_0 ?_
  refine sm_istore_n (pc := 1) (n := 1) dX0_withoutDefect_1 rfl ?_
  refine sm_iconst (pc := 2) dX0_withoutDefect_2 zc_i_0 ?_
  refine sm_istore_n (pc := 3) (n := 2) dX0_withoutDefect_3 rfl ?_
  exact sm_loop (fun r4 hr4 => slX0_withoutDefect_4 P r4 hr4) _
noncomputable def f_X0_withoutDefect {d : Nat} : List zV → zH d → zP d → Bool := zfn 3 b_X0_withoutDefect
theorem m_X0_withoutDefect {d : Nat} : zMet (d := d) X_X0_withoutDefect yX0_withoutDefect 2 f_X0_withoutDefect := zmet_mk (X := X_X0_withoutDefect) (by decide) rfl rfl s_X0_withoutDefect

abbrev X_X0_init : zM := (RX0, cX0_init, 7, none, "<init>")
noncomputable def bX0_init_150 {d : Nat} (P : zP d) (r81 : zK d) : zK d := (xcV 16 4 0 0 f_X0_join (xinc 6 1 r81))
set_option maxRecDepth 100000 in
set_option maxHeartbeats 4000000 in
theorem sbX0_init_150 {d : Nat} [zGh] (P : zP d) (r81 : zK d) (hr81 : zSim X_X0_init 3 P 81 r81) : zSim X_X0_init 3 P 150 (bX0_init_150 P r81) := by
  unfold bX0_init_150
  refine sm_cV (pc := 150) (ci := 0) (n := 4) (mc := 0) (ms := 0) rfl m_X0_join (cr_X0_64 (X := X_X0_init) (fr := 3) (frc := 2) (pc := 150) (mc := 0) (ms := 0) rfl (by decide) dX0_init_150) ?_
  refine sm_iinc (pc := 153) (n := 6) dX0_init_153 zc_i_1 ?_
  refine sm_goto (pc := 156) (tgt := 81) dX0_init_156 (by decide) ?_
  exact hr81
noncomputable def cX0_init_129 {d : Nat} (P : zP d) (r81 : zK d) : zK d := (xaal (xcS 3 0 0 f_X0_readCore (xald 0 (xild 6 (xild 2 (xald 3 (xild 6 (xald1 0 (xpI 4294967295 (xjoin (bX0_init_150 P r81) (fun j150 => (xcmp Nat.beq (xpI 0 j150) (xpI 1 j150)))))))))))))
set_option maxRecDepth 100000 in
set_option maxHeartbeats 4000000 in
theorem scX0_init_129 {d : Nat} [zGh] (P : zP d) (r81 : zK d) (hr81 : zSim X_X0_init 3 P 81 r81) : zSim X_X0_init 3 P 129 (cX0_init_129 P r81) := by
  unfold cX0_init_129
  refine sm_aaload (pc := 129) dX0_init_129 ?_
  refine sm_cS (pc := 130) (n := 3) (mc := 0) (ms := 0) m_X0_readCore (cr_X0_60 (X := X_X0_init) (fr := 3) (frc := 1) (pc := 130) (mc := 0) (ms := 0) rfl (by decide) dX0_init_130) ?_
  refine sm_aload_n (pc := 133) (n := 0) dX0_init_133 rfl ?_
  refine sm_iload (pc := 134) (n := 6) dX0_init_134 ?_
  refine sm_iload_n (pc := 136) (n := 2) dX0_init_136 rfl ?_
  refine sm_aload_n (pc := 137) (n := 3) dX0_init_137 rfl ?_
  refine sm_iload (pc := 138) (n := 6) dX0_init_138 ?_
  refine sm_iaload (pc := 140) dX0_init_140 ?_
  refine sm_iconst (pc := 141) dX0_init_141 zc_i_m1 ?_
  refine sm_join (pc := 142) (pc' := 150) (sbX0_init_150 P r81 hr81) (fun j150 hj150 => ?_)
  refine sm_icmp_eq (pc := 142) (tgt := 149) dX0_init_142 (by decide) ?_ ?_
  · skip
    refine sm_iconst (pc := 149) dX0_init_149 zc_i_0 ?_
    exact hj150
  · skip
    refine sm_iconst (pc := 145) dX0_init_145 zc_i_1 ?_
    refine sm_goto (pc := 146) (tgt := 150) dX0_init_146 (by decide) ?_
    exact hj150
noncomputable def lX0_init_81 {d : Nat} (P : zP d) (r81 : zK d) : zK d := (xild 6 (xild 4 (xcmp tge (xvret P) (xald 0 (xgfR 16 0 (xild 6 (xald 1 (xgfR 23 3 (xild 6 (xaal (xgfR 20 2 (xild 2 (xald 5 (xcS 3 0 0 f_X0_slide (xast1 0 (fun v => v) (xald 5 (xald 1 (xgfR 23 3 (xild 6 (xaal (xgfI 20 1 (xald 0 (xgfR 16 1 (xild 6 (cX0_init_129 P r81)))))))))))))))))))))))))
set_option maxRecDepth 100000 in
set_option maxHeartbeats 4000000 in
theorem slX0_init_81 {d : Nat} [zGh] (P : zP d) (r81 : zK d) (hr81 : zSim X_X0_init 3 P 81 r81) : zSim X_X0_init 3 P 81 (lX0_init_81 P r81) := by
  unfold lX0_init_81
  refine sm_iload (pc := 81) (n := 6) dX0_init_81 ?_
  refine sm_iload (pc := 83) (n := 4) dX0_init_83 ?_
  refine sm_icmp_ge (pc := 85) (tgt := 159) dX0_init_85 (by decide) ?_ ?_
  · skip
    exact sm_vreturn (pc := 159) dX0_init_159 rfl
  · skip
    refine sm_aload_n (pc := 88) (n := 0) dX0_init_88 rfl ?_
    refine gf_X0_15 (pc := 89) rfl dX0_init_89 ?_
    refine sm_iload (pc := 92) (n := 6) dX0_init_92 ?_
    refine sm_aload_n (pc := 94) (n := 1) dX0_init_94 rfl ?_
    refine gf_X0_44 (pc := 95) rfl dX0_init_95 ?_
    refine sm_iload (pc := 98) (n := 6) dX0_init_98 ?_
    refine sm_aaload (pc := 100) dX0_init_100 ?_
    refine gf_X0_48 (pc := 101) rfl dX0_init_101 ?_
    refine sm_iload_n (pc := 104) (n := 2) dX0_init_104 rfl ?_
    refine sm_aload (pc := 105) (n := 5) dX0_init_105 ?_
    refine sm_cS (pc := 107) (n := 3) (mc := 0) (ms := 0) m_X0_slide (cr_X0_53 (X := X_X0_init) (fr := 3) (frc := 1) (pc := 107) (mc := 0) (ms := 0) rfl (by decide) dX0_init_107) ?_
    refine sm_iastore (pc := 110) dX0_init_110 ?_
    refine sm_aload (pc := 111) (n := 5) dX0_init_111 ?_
    refine sm_aload_n (pc := 113) (n := 1) dX0_init_113 rfl ?_
    refine gf_X0_44 (pc := 114) rfl dX0_init_114 ?_
    refine sm_iload (pc := 117) (n := 6) dX0_init_117 ?_
    refine sm_aaload (pc := 119) dX0_init_119 ?_
    refine gf_X0_57 (pc := 120) rfl dX0_init_120 ?_
    refine sm_aload_n (pc := 123) (n := 0) dX0_init_123 rfl ?_
    refine gf_X0_26 (pc := 124) rfl dX0_init_124 ?_
    refine sm_iload (pc := 127) (n := 6) dX0_init_127 ?_
    exact scX0_init_129 P r81 hr81
noncomputable def cX0_init_49 {d : Nat} (P : zP d) : zK d := (xild 4 (xnwa 0 (xpfR 16 5 (xald 0 (xild 4 (xnwa 0 (xpfR 16 6 (xald 0 (xild 4 (xnwa 0 (xpfR 16 7 (xpI 12 (xnwa 1 (xast 5 (xpI 0 (xist 6 (xloop (fun r81 => (lX0_init_81 P r81)) 100000)))))))))))))))))
set_option maxRecDepth 100000 in
set_option maxHeartbeats 4000000 in
theorem scX0_init_49 {d : Nat} [zGh] (P : zP d) : zSim X_X0_init 3 P 49 (cX0_init_49 P) := by
  unfold cX0_init_49
  refine sm_iload (pc := 49) (n := 4) dX0_init_49 ?_
  refine sm_newI (pc := 51) dX0_init_51 wd_46 ?_
  refine pf_X0_35 (pc := 53) rfl rfl dX0_init_53 ?_
  refine sm_aload_n (pc := 56) (n := 0) dX0_init_56 rfl ?_
  refine sm_iload (pc := 57) (n := 4) dX0_init_57 ?_
  refine sm_newI (pc := 59) dX0_init_59 wd_46 ?_
  refine pf_X0_38 (pc := 61) rfl rfl dX0_init_61 ?_
  refine sm_aload_n (pc := 64) (n := 0) dX0_init_64 rfl ?_
  refine sm_iload (pc := 65) (n := 4) dX0_init_65 ?_
  refine sm_newI (pc := 67) dX0_init_67 wd_46 ?_
  refine pf_X0_41 (pc := 69) rfl rfl dX0_init_69 ?_
  refine sm_bipush (pc := 72) dX0_init_72 zc_b_12 ?_
  refine sm_newZ (pc := 74) dX0_init_74 wd_360 ?_
  refine sm_astore (pc := 76) (n := 5) dX0_init_76 ?_
  refine sm_iconst (pc := 78) dX0_init_78 zc_i_0 ?_
  refine sm_istore (pc := 79) (n := 6) dX0_init_79 ?_
  exact sm_loop (fun r81 hr81 => slX0_init_81 P r81 hr81) _
noncomputable def b_X0_init {d : Nat} (P : zP d) : zK d := (xald 0 (xobj (xald 1 (xgfI 23 1 (xist 4 (xald 0 (xild 4 (xnwa 0 (xpfR 16 0 (xald 0 (xild 4 (xald 1 (xgfI 23 0 (xmnaD 3 0 (xpfR 16 1 (xald 0 (xild 4 (xnwa 0 (xpfR 16 2 (xald 0 (xild 4 (xnwa 0 (xpfR 16 4 (xald 0 (cX0_init_49 P)))))))))))))))))))))))))
set_option maxRecDepth 100000 in
set_option maxHeartbeats 4000000 in
theorem s_X0_init {d : Nat} [zGh] (P : zP d) : zSim X_X0_init 3 P 0 (b_X0_init P) := by
  unfold b_X0_init
  refine sm_aload_n (pc := 0) (n := 0) dX0_init_0 rfl ?_
  refine sm_objinit (pc := 1) wd_425 wd_21 wd_22 (by decide) dX0_init_1 ?_
  refine sm_aload_n (pc := 4) (n := 1) dX0_init_4 rfl ?_
  refine gf_X0_9 (pc := 5) rfl dX0_init_5 ?_
  refine sm_istore (pc := 8) (n := 4) dX0_init_8 ?_
  refine sm_aload_n (pc := 10) (n := 0) dX0_init_10 rfl ?_
  refine sm_iload (pc := 11) (n := 4) dX0_init_11 ?_
  refine sm_newI (pc := 13) dX0_init_13 wd_46 ?_
  refine pf_X0_15 (pc := 15) rfl rfl dX0_init_15 ?_
  refine sm_aload_n (pc := 18) (n := 0) dX0_init_18 rfl ?_
  refine sm_iload (pc := 19) (n := 4) dX0_init_19 ?_
  refine sm_aload_n (pc := 21) (n := 1) dX0_init_21 rfl ?_
  refine gf_X0_21 (pc := 22) rfl dX0_init_22 ?_
  refine sm_mnaDI (pc := 25) wd_426 wd_46 dX0_init_25 ?_
  refine pf_X0_26 (pc := 29) rfl rfl dX0_init_29 ?_
  refine sm_aload_n (pc := 32) (n := 0) dX0_init_32 rfl ?_
  refine sm_iload (pc := 33) (n := 4) dX0_init_33 ?_
  refine sm_newI (pc := 35) dX0_init_35 wd_46 ?_
  refine pf_X0_29 (pc := 37) rfl rfl dX0_init_37 ?_
  refine sm_aload_n (pc := 40) (n := 0) dX0_init_40 rfl ?_
  refine sm_iload (pc := 41) (n := 4) dX0_init_41 ?_
  refine sm_newI (pc := 43) dX0_init_43 wd_46 ?_
  refine pf_X0_32 (pc := 45) rfl rfl dX0_init_45 ?_
  refine sm_aload_n (pc := 48) (n := 0) dX0_init_48 rfl ?_
  exact scX0_init_49 P
noncomputable def f_X0_init {d : Nat} : List zV → zH d → zP d → Bool := zfn 7 b_X0_init
theorem m_X0_init {d : Nat} : zMet (d := d) X_X0_init yX0_init 3 f_X0_init := zmet_mk (X := X_X0_init) (by decide) rfl rfl s_X0_init

