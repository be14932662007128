/-! the class, by program -/
abbrev X_X8_isPartition : zM := (RX8, cX8_isPartition, 2, (some .boolean), "isPartition")
noncomputable def bX8_isPartition_20 {d : Nat} (P : zP d) : zK d := (xzret P)
set_option maxRecDepth 100000 in
set_option maxHeartbeats 4000000 in
theorem sbX8_isPartition_20 {d : Nat} [zGh] (P : zP d) : zSim X_X8_isPartition 1 P 20 (bX8_isPartition_20 P) := by
  unfold bX8_isPartition_20
  exact sm_zreturn (pc := 20) dX8_isPartition_20 rfl
noncomputable def bX8_isPartition_19 {d : Nat} (P : zP d) (j20 : zK d) : zK d := (xpI 0 j20)
set_option maxRecDepth 100000 in
set_option maxHeartbeats 4000000 in
theorem sbX8_isPartition_19 {d : Nat} [zGh] (P : zP d) (j20 : zK d) (hj20 : zSim X_X8_isPartition 1 P 20 j20) : zSim X_X8_isPartition 1 P 19 (bX8_isPartition_19 P j20) := by
  unfold bX8_isPartition_19
  refine sm_iconst (pc := 19) dX8_isPartition_19 zc_i_0 ?_
  exact hj20
noncomputable def b_X8_isPartition {d : Nat} (P : zP d) : zK d := (xild 1 (xjoin (bX8_isPartition_20 P) (fun j20 => (xjoin (bX8_isPartition_19 P j20) (fun j19 => (xif0 t0ge (xild 1 (xald 0 (xgfR 24 6 (xgfI 23 1 (xcmp tge j19 (xpI 1 j20)))))) j19))))))
set_option maxRecDepth 100000 in
set_option maxHeartbeats 4000000 in
theorem s_X8_isPartition {d : Nat} [zGh] (P : zP d) : zSim X_X8_isPartition 1 P 0 (b_X8_isPartition P) := by
  unfold b_X8_isPartition
  refine sm_iload_n (pc := 0) (n := 1) dX8_isPartition_0 rfl ?_
  refine sm_join (pc := 1) (pc' := 20) (sbX8_isPartition_20 P) (fun j20 hj20 => ?_)
  refine sm_join (pc := 1) (pc' := 19) (sbX8_isPartition_19 P j20 hj20) (fun j19 hj19 => ?_)
  refine sm_if_lt (pc := 1) (tgt := 19) dX8_isPartition_1 (by decide) ?_ ?_
  · skip
    exact hj19
  · skip
    refine sm_iload_n (pc := 4) (n := 1) dX8_isPartition_4 rfl ?_
    refine sm_aload_n (pc := 5) (n := 0) dX8_isPartition_5 rfl ?_
    refine gf_X8_40 (pc := 6) rfl dX8_isPartition_6 ?_
    refine gf_X8_74 (pc := 9) rfl dX8_isPartition_9 ?_
    refine sm_icmp_ge (pc := 12) (tgt := 19) dX8_isPartition_12 (by decide) ?_ ?_
    · skip
      exact hj19
    · skip
      refine sm_iconst (pc := 15) dX8_isPartition_15 zc_i_1 ?_
      refine sm_goto (pc := 16) (tgt := 20) dX8_isPartition_16 (by decide) ?_
      exact hj20
noncomputable def f_X8_isPartition {d : Nat} : List zV → zH d → zP d → Bool := zfn 2 b_X8_isPartition
theorem m_X8_isPartition {d : Nat} : zMet (d := d) X_X8_isPartition yX8_isPartition 1 f_X8_isPartition := zmet_mk (X := X_X8_isPartition) (by decide) rfl rfl s_X8_isPartition

abbrev X_X8_isRegularPartition : zM := (RX8, cX8_isRegularPartition, 2, (some .boolean), "isRegularPartition")
noncomputable def bX8_isRegularPartition_24 {d : Nat} (P : zP d) : zK d := (xzret P)
set_option maxRecDepth 100000 in
set_option maxHeartbeats 4000000 in
theorem sbX8_isRegularPartition_24 {d : Nat} [zGh] (P : zP d) : zSim X_X8_isRegularPartition 2 P 24 (bX8_isRegularPartition_24 P) := by
  unfold bX8_isRegularPartition_24
  exact sm_zreturn (pc := 24) dX8_isRegularPartition_24 rfl
noncomputable def bX8_isRegularPartition_23 {d : Nat} (P : zP d) (j24 : zK d) : zK d := (xpI 0 j24)
set_option maxRecDepth 100000 in
set_option maxHeartbeats 4000000 in
theorem sbX8_isRegularPartition_23 {d : Nat} [zGh] (P : zP d) (j24 : zK d) (hj24 : zSim X_X8_isRegularPartition 2 P 24 j24) : zSim X_X8_isRegularPartition 2 P 23 (bX8_isRegularPartition_23 P j24) := by
  unfold bX8_isRegularPartition_23
  refine sm_iconst (pc := 23) dX8_isRegularPartition_23 zc_i_0 ?_
  exact hj24
noncomputable def b_X8_isRegularPartition {d : Nat} (P : zP d) : zK d := (xald 0 (xild 1 (xcV 24 2 0 0 f_X8_isPartition (xjoin (bX8_isRegularPartition_24 P) (fun j24 => (xjoin (bX8_isRegularPartition_23 P j24) (fun j23 => (xif0 t0eq j23 (xald 0 (xgfR 24 7 (xild 1 (xcV 21 2 0 0 f_X5_isRegular (xif0 t0eq j23 (xpI 1 j24))))))))))))))
set_option maxRecDepth 100000 in
set_option maxHeartbeats 4000000 in
theorem s_X8_isRegularPartition {d : Nat} [zGh] (P : zP d) : zSim X_X8_isRegularPartition 2 P 0 (b_X8_isRegularPartition P) := by
  unfold b_X8_isRegularPartition
  refine sm_aload_n (pc := 0) (n := 0) dX8_isRegularPartition_0 rfl ?_
  refine sm_iload_n (pc := 1) (n := 1) dX8_isRegularPartition_1 rfl ?_
  refine sm_cV (pc := 2) (ci := 8) (n := 2) (mc := 0) (ms := 0) rfl m_X8_isPartition (cr_X8_126 (X := X_X8_isRegularPartition) (fr := 2) (frc := 1) (pc := 2) (mc := 0) (ms := 0) rfl (by decide) dX8_isRegularPartition_2) ?_
  refine sm_join (pc := 5) (pc' := 24) (sbX8_isRegularPartition_24 P) (fun j24 hj24 => ?_)
  refine sm_join (pc := 5) (pc' := 23) (sbX8_isRegularPartition_23 P j24 hj24) (fun j23 hj23 => ?_)
  refine sm_if_eq (pc := 5) (tgt := 23) dX8_isRegularPartition_5 (by decide) ?_ ?_
  · skip
    exact hj23
  · skip
    refine sm_aload_n (pc := 8) (n := 0) dX8_isRegularPartition_8 rfl ?_
    refine gf_X8_47 (pc := 9) rfl dX8_isRegularPartition_9 ?_
    refine sm_iload_n (pc := 12) (n := 1) dX8_isRegularPartition_12 rfl ?_
    refine sm_cV (pc := 13) (ci := 5) (n := 2) (mc := 0) (ms := 0) rfl m_X5_isRegular (cr_X8_145 (X := X_X8_isRegularPartition) (fr := 2) (frc := 1) (pc := 13) (mc := 0) (ms := 0) rfl (by decide) dX8_isRegularPartition_13) ?_
    refine sm_if_eq (pc := 16) (tgt := 23) dX8_isRegularPartition_16 (by decide) ?_ ?_
    · skip
      exact hj23
    · skip
      refine sm_iconst (pc := 19) dX8_isRegularPartition_19 zc_i_1 ?_
      refine sm_goto (pc := 20) (tgt := 24) dX8_isRegularPartition_20 (by decide) ?_
      exact hj24
noncomputable def f_X8_isRegularPartition {d : Nat} : List zV → zH d → zP d → Bool := zfn 2 b_X8_isRegularPartition
theorem m_X8_isRegularPartition {d : Nat} : zMet (d := d) X_X8_isRegularPartition yX8_isRegularPartition 2 f_X8_isRegularPartition := zmet_mk (X := X_X8_isRegularPartition) (by decide) rfl rfl s_X8_isRegularPartition

abbrev X_X8_timesFactorial : zM := (RX8, cX8_timesFactorial, 8, (some .long), "timesFactorial")
noncomputable def cX8_timesFactorial_76 {d : Nat} (P : zP d) (r33 : zK d) : zK d := r33
set_option maxRecDepth 100000 in
set_option maxHeartbeats 4000000 in
theorem scX8_timesFactorial_76 {d : Nat} [zGh] (P : zP d) (r33 : zK d) (hr33 : zSim X_X8_timesFactorial 1 P 33 r33) : zSim X_X8_timesFactorial 1 P 76 (cX8_timesFactorial_76 P r33) := by
  unfold cX8_timesFactorial_76
  refine sm_goto (pc := 76) (tgt := 33) dX8_timesFactorial_76 (by decide) ?_
  exact hr33
noncomputable def lX8_timesFactorial_33 {d : Nat} (P : zP d) (r33 : zK d) : zK d := (xild 7 (xald 0 (xgfR 24 6 (xgfI 23 1 (xcmp tge (xlld 5 (xlret P)) (xlld 5 (xald 1 (xild 7 (xlal (xald 0 (xgfR 24 6 (xgfR 23 5 (xild 7 (xald1 0 (xi2l (xbinj zmulj (xald 4 (xild 7 (xald1 0 (xi2l (xbinj zmulj (xbinj zaddj (xlst 5 (xinc 7 1 (cX8_timesFactorial_76 P r33)))))))))))))))))))))))))
set_option maxRecDepth 100000 in
set_option maxHeartbeats 4000000 in
theorem slX8_timesFactorial_33 {d : Nat} [zGh] (P : zP d) (r33 : zK d) (hr33 : zSim X_X8_timesFactorial 1 P 33 r33) : zSim X_X8_timesFactorial 1 P 33 (lX8_timesFactorial_33 P r33) := by
  unfold lX8_timesFactorial_33
  refine sm_iload (pc := 33) (n := 7) dX8_timesFactorial_33 ?_
  refine sm_aload_n (pc := 35) (n := 0) dX8_timesFactorial_35 rfl ?_
  refine gf_X8_40 (pc := 36) rfl dX8_timesFactorial_36 ?_
  refine gf_X8_74 (pc := 39) rfl dX8_timesFactorial_39 ?_
  refine sm_icmp_ge (pc := 42) (tgt := 79) dX8_timesFactorial_42 (by decide) ?_ ?_
  · skip
    refine sm_lload (pc := 79) (n := 5) dX8_timesFactorial_79 ?_
    exact sm_lreturn (pc := 81) dX8_timesFactorial_81 rfl
  · skip
    refine sm_lload (pc := 45) (n := 5) dX8_timesFactorial_45 ?_
    refine sm_aload_n (pc := 47) (n := 1) dX8_timesFactorial_47 rfl ?_
    refine sm_iload (pc := 48) (n := 7) dX8_timesFactorial_48 ?_
    refine sm_laload (pc := 50) dX8_timesFactorial_50 ?_
    refine sm_aload_n (pc := 51) (n := 0) dX8_timesFactorial_51 rfl ?_
    refine gf_X8_40 (pc := 52) rfl dX8_timesFactorial_52 ?_
    refine gf_X8_193 (pc := 55) rfl dX8_timesFactorial_55 ?_
    refine sm_iload (pc := 58) (n := 7) dX8_timesFactorial_58 ?_
    refine sm_iaload (pc := 60) dX8_timesFactorial_60 ?_
    refine sm_i2l (pc := 61) dX8_timesFactorial_61 ?_
    refine sm_lmul (pc := 62) dX8_timesFactorial_62 ?_
    refine sm_aload (pc := 63) (n := 4) dX8_timesFactorial_63 ?_
    refine sm_iload (pc := 65) (n := 7) dX8_timesFactorial_65 ?_
    refine sm_iaload (pc := 67) dX8_timesFactorial_67 ?_
    refine sm_i2l (pc := 68) dX8_timesFactorial_68 ?_
    refine sm_lmul (pc := 69) dX8_timesFactorial_69 ?_
    refine sm_ladd (pc := 70) dX8_timesFactorial_70 ?_
    refine sm_lstore (pc := 71) (n := 5) dX8_timesFactorial_71 ?_
    refine sm_iinc (pc := 73) (n := 7) dX8_timesFactorial_73 zc_i_1 ?_
    exact scX8_timesFactorial_76 P r33 hr33
noncomputable def bX8_timesFactorial_25 {d : Nat} (P : zP d) : zK d := (xast 4 (xpL 0 (xlst 5 (xpI 0 (xist 7 (xloop (fun r33 => (lX8_timesFactorial_33 P r33)) 100000))))))
set_option maxRecDepth 100000 in
set_option maxHeartbeats 4000000 in
theorem sbX8_timesFactorial_25 {d : Nat} [zGh] (P : zP d) : zSim X_X8_timesFactorial 1 P 25 (bX8_timesFactorial_25 P) := by
  unfold bX8_timesFactorial_25
  refine sm_astore (pc := 25) (n := 4) dX8_timesFactorial_25 ?_
  refine sm_lconst (pc := 27) dX8_timesFactorial_27 zc_l_0 ?_
  refine sm_lstore (pc := 28) (n := 5) dX8_timesFactorial_28 ?_
  refine sm_iconst (pc := 30) dX8_timesFactorial_30 zc_i_0 ?_
  refine sm_istore (pc := 31) (n := 7) dX8_timesFactorial_31 ?_
  exact sm_loop (fun r33 hr33 => slX8_timesFactorial_33 P r33 hr33) _
noncomputable def b_X8_timesFactorial {d : Nat} (P : zP d) : zK d := (xild 3 (xjoin (bX8_timesFactorial_25 P) (fun j25 => (xif0 t0eq (xald 0 (xgfR 24 6 (xgfR 23 12 (xild 2 (xaal j25))))) (xald 0 (xgfR 24 7 (xgfR 21 9 (xild 2 (xaal j25)))))))))
set_option maxRecDepth 100000 in
set_option maxHeartbeats 4000000 in
theorem s_X8_timesFactorial {d : Nat} [zGh] (P : zP d) : zSim X_X8_timesFactorial 1 P 0 (b_X8_timesFactorial P) := by
  unfold b_X8_timesFactorial
  refine sm_iload_n (pc := 0) (n := 3) dX8_timesFactorial_0 rfl ?_
  refine sm_join (pc := 1) (pc' := 25) (sbX8_timesFactorial_25 P) (fun j25 hj25 => ?_)
  refine sm_if_eq (pc := 1) (tgt := 16) dX8_timesFactorial_1 (by decide) ?_ ?_
  · skip
    refine sm_aload_n (pc := 16) (n := 0) dX8_timesFactorial_16 rfl ?_
    refine gf_X8_40 (pc := 17) rfl dX8_timesFactorial_17 ?_
    refine gf_X8_209 (pc := 20) rfl dX8_timesFactorial_20 ?_
    refine sm_iload_n (pc := 23) (n := 2) dX8_timesFactorial_23 rfl ?_
    refine sm_aaload (pc := 24) dX8_timesFactorial_24 ?_
    exact hj25
  · skip
    refine sm_aload_n (pc := 4) (n := 0) dX8_timesFactorial_4 rfl ?_
    refine gf_X8_47 (pc := 5) rfl dX8_timesFactorial_5 ?_
    refine gf_X8_218 (pc := 8) rfl dX8_timesFactorial_8 ?_
    refine sm_iload_n (pc := 11) (n := 2) dX8_timesFactorial_11 rfl ?_
    refine sm_aaload (pc := 12) dX8_timesFactorial_12 ?_
    refine sm_goto (pc := 13) (tgt := 25) dX8_timesFactorial_13 (by decide) ?_
    exact hj25
noncomputable def f_X8_timesFactorial {d : Nat} : List zV → zH d → zP d → Bool := zfn 8 b_X8_timesFactorial
theorem m_X8_timesFactorial {d : Nat} : zMet (d := d) X_X8_timesFactorial yX8_timesFactorial 1 f_X8_timesFactorial := zmet_mk (X := X_X8_timesFactorial) (by decide) rfl rfl s_X8_timesFactorial

abbrev X_X8_isWholeTimes : zM := (RX8, cX8_isWholeTimes, 3, (some .boolean), "isWholeTimes")
noncomputable def bX8_isWholeTimes_30 {d : Nat} (P : zP d) : zK d := (xzret P)
set_option maxRecDepth 100000 in
set_option maxHeartbeats 4000000 in
theorem sbX8_isWholeTimes_30 {d : Nat} [zGh] (P : zP d) : zSim X_X8_isWholeTimes 1 P 30 (bX8_isWholeTimes_30 P) := by
  unfold bX8_isWholeTimes_30
  exact sm_zreturn (pc := 30) dX8_isWholeTimes_30 rfl
noncomputable def bX8_isWholeTimes_29 {d : Nat} (P : zP d) (j30 : zK d) : zK d := (xpI 0 j30)
set_option maxRecDepth 100000 in
set_option maxHeartbeats 4000000 in
theorem sbX8_isWholeTimes_29 {d : Nat} [zGh] (P : zP d) (j30 : zK d) (hj30 : zSim X_X8_isWholeTimes 1 P 30 j30) : zSim X_X8_isWholeTimes 1 P 29 (bX8_isWholeTimes_29 P j30) := by
  unfold bX8_isWholeTimes_29
  refine sm_iconst (pc := 29) dX8_isWholeTimes_29 zc_i_0 ?_
  exact hj30
noncomputable def b_X8_isWholeTimes {d : Nat} (P : zP d) : zK d := (xald 0 (xgfR 24 6 (xgfI 23 2 (xjoin (bX8_isWholeTimes_30 P) (fun j30 => (xjoin (bX8_isWholeTimes_29 P j30) (fun j29 => (xif0 t0le j29 (xlld 1 (xald 0 (xgfR 24 6 (xgfI 23 2 (xi2l (xbinjN zremj (xpL 0 (xlcmp (xif0 t0eq (xpI 1 j30) j29)))))))))))))))))
set_option maxRecDepth 100000 in
set_option maxHeartbeats 4000000 in
theorem s_X8_isWholeTimes {d : Nat} [zGh] (P : zP d) : zSim X_X8_isWholeTimes 1 P 0 (b_X8_isWholeTimes P) := by
  unfold b_X8_isWholeTimes
  refine sm_aload_n (pc := 0) (n := 0) dX8_isWholeTimes_0 rfl ?_
  refine gf_X8_40 (pc := 1) rfl dX8_isWholeTimes_1 ?_
  refine gf_X8_266 (pc := 4) rfl dX8_isWholeTimes_4 ?_
  refine sm_join (pc := 7) (pc' := 30) (sbX8_isWholeTimes_30 P) (fun j30 hj30 => ?_)
  refine sm_join (pc := 7) (pc' := 29) (sbX8_isWholeTimes_29 P j30 hj30) (fun j29 hj29 => ?_)
  refine sm_if_le (pc := 7) (tgt := 29) dX8_isWholeTimes_7 (by decide) ?_ ?_
  · skip
    exact hj29
  · skip
    refine sm_lload_n (pc := 10) (n := 1) dX8_isWholeTimes_10 rfl ?_
    refine sm_aload_n (pc := 11) (n := 0) dX8_isWholeTimes_11 rfl ?_
    refine gf_X8_40 (pc := 12) rfl dX8_isWholeTimes_12 ?_
    refine gf_X8_266 (pc := 15) rfl dX8_isWholeTimes_15 ?_
    refine sm_i2l (pc := 18) dX8_isWholeTimes_18 ?_
    refine sm_lrem (pc := 19) dX8_isWholeTimes_19 ?_
    refine sm_lconst (pc := 20) dX8_isWholeTimes_20 zc_l_0 ?_
    refine sm_lcmp (pc := 21) dX8_isWholeTimes_21 ?_
    refine sm_if_ne (pc := 22) (tgt := 29) dX8_isWholeTimes_22 (by decide) ?_ ?_
    · skip
      exact hj29
    · skip
      refine sm_iconst (pc := 25) dX8_isWholeTimes_25 zc_i_1 ?_
      refine sm_goto (pc := 26) (tgt := 30) dX8_isWholeTimes_26 (by decide) ?_
      exact hj30
noncomputable def f_X8_isWholeTimes {d : Nat} : List zV → zH d → zP d → Bool := zfn 3 b_X8_isWholeTimes
theorem m_X8_isWholeTimes {d : Nat} : zMet (d := d) X_X8_isWholeTimes yX8_isWholeTimes 1 f_X8_isWholeTimes := zmet_mk (X := X_X8_isWholeTimes) (by decide) rfl rfl s_X8_isWholeTimes

abbrev X_X8_isWhole : zM := (RX8, cX8_isWhole, 7, (some .boolean), "isWhole")
noncomputable def bX8_isWhole_66 {d : Nat} (P : zP d) (r3 : zK d) : zK d := (xinc 4 1 r3)
set_option maxRecDepth 100000 in
set_option maxHeartbeats 4000000 in
theorem sbX8_isWhole_66 {d : Nat} [zGh] (P : zP d) (r3 : zK d) (hr3 : zSim X_X8_isWhole 2 P 3 r3) : zSim X_X8_isWhole 2 P 66 (bX8_isWhole_66 P r3) := by
  unfold bX8_isWhole_66
  refine sm_iinc (pc := 66) (n := 4) dX8_isWhole_66 zc_i_1 ?_
  refine sm_goto (pc := 69) (tgt := 3) dX8_isWhole_69 (by decide) ?_
  exact hr3
noncomputable def bX8_isWhole_64 {d : Nat} (P : zP d) : zK d := (xpI 0 (xzret P))
set_option maxRecDepth 100000 in
set_option maxHeartbeats 4000000 in
theorem sbX8_isWhole_64 {d : Nat} [zGh] (P : zP d) : zSim X_X8_isWhole 2 P 64 (bX8_isWhole_64 P) := by
  unfold bX8_isWhole_64
  refine sm_iconst (pc := 64) dX8_isWhole_64 zc_i_0 ?_
  exact sm_zreturn (pc := 65) dX8_isWhole_65 rfl
noncomputable def bX8_isWhole_34 {d : Nat} (P : zP d) (j66 : zK d) : zK d := (xald 0 (xald 1 (xild 4 (xild 2 (xcV 24 4 0 0 f_X8_timesFactorial (xlst 5 (xald 0 (xlld 5 (xcV 24 2 0 0 f_X8_isWholeTimes (xjoin (bX8_isWhole_64 P) (fun j64 => (xif0 t0eq j64 (xild 3 (xif0 t0eq j66 (xlld 5 (xpL 0 (xlcmp (xif0 t0ge j66 j64))))))))))))))))))
set_option maxRecDepth 100000 in
set_option maxHeartbeats 4000000 in
theorem sbX8_isWhole_34 {d : Nat} [zGh] (P : zP d) (j66 : zK d) (hj66 : zSim X_X8_isWhole 2 P 66 j66) : zSim X_X8_isWhole 2 P 34 (bX8_isWhole_34 P j66) := by
  unfold bX8_isWhole_34
  refine sm_aload_n (pc := 34) (n := 0) dX8_isWhole_34 rfl ?_
  refine sm_aload_n (pc := 35) (n := 1) dX8_isWhole_35 rfl ?_
  refine sm_iload (pc := 36) (n := 4) dX8_isWhole_36 ?_
  refine sm_iload_n (pc := 38) (n := 2) dX8_isWhole_38 rfl ?_
  refine sm_cV (pc := 39) (ci := 8) (n := 4) (mc := 0) (ms := 0) rfl m_X8_timesFactorial (cr_X8_256 (X := X_X8_isWhole) (fr := 2) (frc := 1) (pc := 39) (mc := 0) (ms := 0) rfl (by decide) dX8_isWhole_39) ?_
  refine sm_lstore (pc := 42) (n := 5) dX8_isWhole_42 ?_
  refine sm_aload_n (pc := 44) (n := 0) dX8_isWhole_44 rfl ?_
  refine sm_lload (pc := 45) (n := 5) dX8_isWhole_45 ?_
  refine sm_cV (pc := 47) (ci := 8) (n := 2) (mc := 0) (ms := 0) rfl m_X8_isWholeTimes (cr_X8_283 (X := X_X8_isWhole) (fr := 2) (frc := 1) (pc := 47) (mc := 0) (ms := 0) rfl (by decide) dX8_isWhole_47) ?_
  refine sm_join (pc := 50) (pc' := 64) (sbX8_isWhole_64 P) (fun j64 hj64 => ?_)
  refine sm_if_eq (pc := 50) (tgt := 64) dX8_isWhole_50 (by decide) ?_ ?_
  · skip
    exact hj64
  · skip
    refine sm_iload_n (pc := 53) (n := 3) dX8_isWhole_53 rfl ?_
    refine sm_if_eq (pc := 54) (tgt := 66) dX8_isWhole_54 (by decide) ?_ ?_
    · skip
      exact hj66
    · skip
      refine sm_lload (pc := 57) (n := 5) dX8_isWhole_57 ?_
      refine sm_lconst (pc := 59) dX8_isWhole_59 zc_l_0 ?_
      refine sm_lcmp (pc := 60) dX8_isWhole_60 ?_
      refine sm_if_ge (pc := 61) (tgt := 66) dX8_isWhole_61 (by decide) ?_ ?_
      · skip
        exact hj66
      · skip
        exact hj64
noncomputable def lX8_isWhole_3 {d : Nat} (P : zP d) (r3 : zK d) : zK d := (xild 4 (xald 0 (xgfR 24 6 (xgfI 23 1 (xcmp tge (xpI 1 (xzret P)) (xild 2 (xjoin (bX8_isWhole_66 P r3) (fun j66 => (xjoin (bX8_isWhole_34 P j66) (fun j34 => (xif0 t0eq j34 (xald 0 (xgfR 24 7 (xild 4 (xcV 21 2 0 0 f_X5_isRegular (xif0 t0eq j66 j34))))))))))))))))
set_option maxRecDepth 100000 in
set_option maxHeartbeats 4000000 in
theorem slX8_isWhole_3 {d : Nat} [zGh] (P : zP d) (r3 : zK d) (hr3 : zSim X_X8_isWhole 2 P 3 r3) : zSim X_X8_isWhole 2 P 3 (lX8_isWhole_3 P r3) := by
  unfold lX8_isWhole_3
  refine sm_iload (pc := 3) (n := 4) dX8_isWhole_3 ?_
  refine sm_aload_n (pc := 5) (n := 0) dX8_isWhole_5 rfl ?_
  refine gf_X8_40 (pc := 6) rfl dX8_isWhole_6 ?_
  refine gf_X8_74 (pc := 9) rfl dX8_isWhole_9 ?_
  refine sm_icmp_ge (pc := 12) (tgt := 72) dX8_isWhole_12 (by decide) ?_ ?_
  · skip
    refine sm_iconst (pc := 72) dX8_isWhole_72 zc_i_1 ?_
    exact sm_zreturn (pc := 73) dX8_isWhole_73 rfl
  · skip
    refine sm_iload_n (pc := 15) (n := 2) dX8_isWhole_15 rfl ?_
    refine sm_join (pc := 16) (pc' := 66) (sbX8_isWhole_66 P r3 hr3) (fun j66 hj66 => ?_)
    refine sm_join (pc := 16) (pc' := 34) (sbX8_isWhole_34 P j66 hj66) (fun j34 hj34 => ?_)
    refine sm_if_eq (pc := 16) (tgt := 34) dX8_isWhole_16 (by decide) ?_ ?_
    · skip
      exact hj34
    · skip
      refine sm_aload_n (pc := 19) (n := 0) dX8_isWhole_19 rfl ?_
      refine gf_X8_47 (pc := 20) rfl dX8_isWhole_20 ?_
      refine sm_iload (pc := 23) (n := 4) dX8_isWhole_23 ?_
      refine sm_cV (pc := 25) (ci := 5) (n := 2) (mc := 0) (ms := 0) rfl m_X5_isRegular (cr_X8_145 (X := X_X8_isWhole) (fr := 2) (frc := 1) (pc := 25) (mc := 0) (ms := 0) rfl (by decide) dX8_isWhole_25) ?_
      refine sm_if_ne (pc := 28) (tgt := 34) dX8_isWhole_28 (by decide) ?_ ?_
      · skip
        exact hj34
      · skip
        refine sm_goto (pc := 31) (tgt := 66) dX8_isWhole_31 (by decide) ?_
        exact hj66
noncomputable def b_X8_isWhole {d : Nat} (P : zP d) : zK d := (xpI 0 (xist 4 (xloop (fun r3 => (lX8_isWhole_3 P r3)) 100000)))
set_option maxRecDepth 100000 in
set_option maxHeartbeats 4000000 in
theorem s_X8_isWhole {d : Nat} [zGh] (P : zP d) : zSim X_X8_isWhole 2 P 0 (b_X8_isWhole P) := by
  unfold b_X8_isWhole
  refine sm_iconst (pc := 0) dX8_isWhole_0 zc_i_0 ?_
  refine sm_istore (pc := 1) (n := 4) dX8_isWhole_1 ?_
  exact sm_loop (fun r3 hr3 => slX8_isWhole_3 P r3 hr3) _
noncomputable def f_X8_isWhole {d : Nat} : List zV → zH d → zP d → Bool := zfn 7 b_X8_isWhole
theorem m_X8_isWhole {d : Nat} : zMet (d := d) X_X8_isWhole yX8_isWhole 2 f_X8_isWhole := zmet_mk (X := X_X8_isWhole) (by decide) rfl rfl s_X8_isWhole

abbrev X_X8_isZeroOffRegular : zM := (RX8, cX8_isZeroOffRegular, 3, (some .boolean), "isZeroOffRegular")
noncomputable def bX8_isZeroOffRegular_35 {d : Nat} (P : zP d) (r2 : zK d) : zK d := (xinc 2 1 r2)
set_option maxRecDepth 100000 in
set_option maxHeartbeats 4000000 in
theorem sbX8_isZeroOffRegular_35 {d : Nat} [zGh] (P : zP d) (r2 : zK d) (hr2 : zSim X_X8_isZeroOffRegular 1 P 2 r2) : zSim X_X8_isZeroOffRegular 1 P 35 (bX8_isZeroOffRegular_35 P r2) := by
  unfold bX8_isZeroOffRegular_35
  refine sm_iinc (pc := 35) (n := 2) dX8_isZeroOffRegular_35 zc_i_1 ?_
  refine sm_goto (pc := 38) (tgt := 2) dX8_isZeroOffRegular_38 (by decide) ?_
  exact hr2
noncomputable def lX8_isZeroOffRegular_2 {d : Nat} (P : zP d) (r2 : zK d) : zK d := (xild 2 (xald 0 (xgfR 24 6 (xgfI 23 1 (xcmp tge (xpI 1 (xzret P)) (xald 0 (xgfR 24 7 (xgfR 21 4 (xild 2 (xald1 1 (xjoin (bX8_isZeroOffRegular_35 P r2) (fun j35 => (xif0 t0eq (xald 1 (xild 2 (xlal (xpL 0 (xlcmp (xif0 t0eq j35 (xpI 0 (xzret P)))))))) j35)))))))))))))
set_option maxRecDepth 100000 in
set_option maxHeartbeats 4000000 in
theorem slX8_isZeroOffRegular_2 {d : Nat} [zGh] (P : zP d) (r2 : zK d) (hr2 : zSim X_X8_isZeroOffRegular 1 P 2 r2) : zSim X_X8_isZeroOffRegular 1 P 2 (lX8_isZeroOffRegular_2 P r2) := by
  unfold lX8_isZeroOffRegular_2
  refine sm_iload_n (pc := 2) (n := 2) dX8_isZeroOffRegular_2 rfl ?_
  refine sm_aload_n (pc := 3) (n := 0) dX8_isZeroOffRegular_3 rfl ?_
  refine gf_X8_40 (pc := 4) rfl dX8_isZeroOffRegular_4 ?_
  refine gf_X8_74 (pc := 7) rfl dX8_isZeroOffRegular_7 ?_
  refine sm_icmp_ge (pc := 10) (tgt := 41) dX8_isZeroOffRegular_10 (by decide) ?_ ?_
  · skip
    refine sm_iconst (pc := 41) dX8_isZeroOffRegular_41 zc_i_1 ?_
    exact sm_zreturn (pc := 42) dX8_isZeroOffRegular_42 rfl
  · skip
    refine sm_aload_n (pc := 13) (n := 0) dX8_isZeroOffRegular_13 rfl ?_
    refine gf_X8_47 (pc := 14) rfl dX8_isZeroOffRegular_14 ?_
    refine gf_X8_199 (pc := 17) rfl dX8_isZeroOffRegular_17 ?_
    refine sm_iload_n (pc := 20) (n := 2) dX8_isZeroOffRegular_20 rfl ?_
    refine sm_baload (pc := 21) dX8_isZeroOffRegular_21 ?_
    refine sm_join (pc := 22) (pc' := 35) (sbX8_isZeroOffRegular_35 P r2 hr2) (fun j35 hj35 => ?_)
    refine sm_if_ne (pc := 22) (tgt := 35) dX8_isZeroOffRegular_22 (by decide) ?_ ?_
    · skip
      exact hj35
    · skip
      refine sm_aload_n (pc := 25) (n := 1) dX8_isZeroOffRegular_25 rfl ?_
      refine sm_iload_n (pc := 26) (n := 2) dX8_isZeroOffRegular_26 rfl ?_
      refine sm_laload (pc := 27) dX8_isZeroOffRegular_27 ?_
      refine sm_lconst (pc := 28) dX8_isZeroOffRegular_28 zc_l_0 ?_
      refine sm_lcmp (pc := 29) dX8_isZeroOffRegular_29 ?_
      refine sm_if_eq (pc := 30) (tgt := 35) dX8_isZeroOffRegular_30 (by decide) ?_ ?_
      · skip
        exact hj35
      · skip
        refine sm_iconst (pc := 33) dX8_isZeroOffRegular_33 zc_i_0 ?_
        exact sm_zreturn (pc := 34) dX8_isZeroOffRegular_34 rfl
noncomputable def b_X8_isZeroOffRegular {d : Nat} (P : zP d) : zK d := (xpI 0 (xist 2 (xloop (fun r2 => (lX8_isZeroOffRegular_2 P r2)) 100000)))
set_option maxRecDepth 100000 in
set_option maxHeartbeats 4000000 in
theorem s_X8_isZeroOffRegular {d : Nat} [zGh] (P : zP d) : zSim X_X8_isZeroOffRegular 1 P 0 (b_X8_isZeroOffRegular P) := by
  unfold b_X8_isZeroOffRegular
  refine sm_iconst (pc := 0) dX8_isZeroOffRegular_0 zc_i_0 ?_
  refine sm_istore_n (pc := 1) (n := 2) dX8_isZeroOffRegular_1 rfl ?_
  exact sm_loop (fun r2 hr2 => slX8_isZeroOffRegular_2 P r2 hr2) _
noncomputable def f_X8_isZeroOffRegular {d : Nat} : List zV → zH d → zP d → Bool := zfn 3 b_X8_isZeroOffRegular
theorem m_X8_isZeroOffRegular {d : Nat} : zMet (d := d) X_X8_isZeroOffRegular yX8_isZeroOffRegular 1 f_X8_isZeroOffRegular := zmet_mk (X := X_X8_isZeroOffRegular) (by decide) rfl rfl s_X8_isZeroOffRegular

abbrev X_X8_slotsInUse : zM := (RX8, cX8_slotsInUse, 4, (some .int), "slotsInUse")
noncomputable def bX8_slotsInUse_42 {d : Nat} (P : zP d) (r12 : zK d) : zK d := (xinc 3 1 r12)
set_option maxRecDepth 100000 in
set_option maxHeartbeats 4000000 in
theorem sbX8_slotsInUse_42 {d : Nat} [zGh] (P : zP d) (r12 : zK d) (hr12 : zSim X_X8_slotsInUse 1 P 12 r12) : zSim X_X8_slotsInUse 1 P 42 (bX8_slotsInUse_42 P r12) := by
  unfold bX8_slotsInUse_42
  refine sm_iinc (pc := 42) (n := 3) dX8_slotsInUse_42 zc_i_1 ?_
  refine sm_goto (pc := 45) (tgt := 12) dX8_slotsInUse_45 (by decide) ?_
  exact hr12
noncomputable def lX8_slotsInUse_12 {d : Nat} (P : zP d) (r12 : zK d) (r4 : zK d) : zK d := (xild 3 (xald 0 (xgfR 24 6 (xgfI 23 1 (xcmp tge (xinc 2 1 r4) (xald 0 (xgfR 24 2 (xild 2 (xaal (xild 3 (xlal (xpL 0 (xlcmp (xjoin (bX8_slotsInUse_42 P r12) (fun j42 => (xif0 t0eq j42 (xild 1 (xpI 1 (xild 2 (xbin zshl (xbin zor (xist 1 j42))))))))))))))))))))))
set_option maxRecDepth 100000 in
set_option maxHeartbeats 4000000 in
theorem slX8_slotsInUse_12 {d : Nat} [zGh] (P : zP d) (r12 : zK d) (r4 : zK d) (hr12 : zSim X_X8_slotsInUse 1 P 12 r12) (hr4 : zSim X_X8_slotsInUse 1 P 4 r4) : zSim X_X8_slotsInUse 1 P 12 (lX8_slotsInUse_12 P r12 r4) := by
  unfold lX8_slotsInUse_12
  refine sm_iload_n (pc := 12) (n := 3) dX8_slotsInUse_12 rfl ?_
  refine sm_aload_n (pc := 13) (n := 0) dX8_slotsInUse_13 rfl ?_
  refine gf_X8_40 (pc := 14) rfl dX8_slotsInUse_14 ?_
  refine gf_X8_74 (pc := 17) rfl dX8_slotsInUse_17 ?_
  refine sm_icmp_ge (pc := 20) (tgt := 48) dX8_slotsInUse_20 (by decide) ?_ ?_
  · skip
    refine sm_iinc (pc := 48) (n := 2) dX8_slotsInUse_48 zc_i_1 ?_
    refine sm_goto (pc := 51) (tgt := 4) dX8_slotsInUse_51 (by decide) ?_
    exact hr4
  · skip
    refine sm_aload_n (pc := 23) (n := 0) dX8_slotsInUse_23 rfl ?_
    refine gf_X8_23 (pc := 24) rfl dX8_slotsInUse_24 ?_
    refine sm_iload_n (pc := 27) (n := 2) dX8_slotsInUse_27 rfl ?_
    refine sm_aaload (pc := 28) dX8_slotsInUse_28 ?_
    refine sm_iload_n (pc := 29) (n := 3) dX8_slotsInUse_29 rfl ?_
    refine sm_laload (pc := 30) dX8_slotsInUse_30 ?_
    refine sm_lconst (pc := 31) dX8_slotsInUse_31 zc_l_0 ?_
    refine sm_lcmp (pc := 32) dX8_slotsInUse_32 ?_
    refine sm_join (pc := 33) (pc' := 42) (sbX8_slotsInUse_42 P r12 hr12) (fun j42 hj42 => ?_)
    refine sm_if_eq (pc := 33) (tgt := 42) dX8_slotsInUse_33 (by decide) ?_ ?_
    · skip
      exact hj42
    · skip
      refine sm_iload_n (pc := 36) (n := 1) dX8_slotsInUse_36 rfl ?_
      refine sm_iconst (pc := 37) dX8_slotsInUse_37 zc_i_1 ?_
      refine sm_iload_n (pc := 38) (n := 2) dX8_slotsInUse_38 rfl ?_
      refine sm_ishl (pc := 39) dX8_slotsInUse_39 ?_
      refine sm_ior (pc := 40) dX8_slotsInUse_40 ?_
      refine sm_istore_n (pc := 41) (n := 1) dX8_slotsInUse_41 rfl ?_
      exact hj42
noncomputable def lX8_slotsInUse_4 {d : Nat} (P : zP d) (r4 : zK d) : zK d := (xild 2 (xpI 6 (xcmp tge (xild 1 (xiret P)) (xpI 0 (xist 3 (xloop (fun r12 => (lX8_slotsInUse_12 P r12 r4)) 100000))))))
set_option maxRecDepth 100000 in
set_option maxHeartbeats 4000000 in
theorem slX8_slotsInUse_4 {d : Nat} [zGh] (P : zP d) (r4 : zK d) (hr4 : zSim X_X8_slotsInUse 1 P 4 r4) : zSim X_X8_slotsInUse 1 P 4 (lX8_slotsInUse_4 P r4) := by
  unfold lX8_slotsInUse_4
  refine sm_iload_n (pc := 4) (n := 2) dX8_slotsInUse_4 rfl ?_
  refine sm_bipush (pc := 5) dX8_slotsInUse_5 zc_b_6 ?_
  refine sm_icmp_ge (pc := 7) (tgt := 54) dX8_slotsInUse_7 (by decide) ?_ ?_
  · skip
    refine sm_iload_n (pc := 54) (n := 1) dX8_slotsInUse_54 rfl ?_
    exact sm_ireturn (pc := 55) dX8_slotsInUse_55 rfl
  · skip
    refine sm_iconst (pc := 10) dX8_slotsInUse_10 zc_i_0 ?_
    refine sm_istore_n (pc := 11) (n := 3) dX8_slotsInUse_11 rfl ?_
    exact sm_loop (fun r12 hr12 => slX8_slotsInUse_12 P r12 r4 hr12 hr4) _
noncomputable def b_X8_slotsInUse {d : Nat} (P : zP d) : zK d := (xpI 0 (xist 1 (xpI 0 (xist 2 (xloop (fun r4 => (lX8_slotsInUse_4 P r4)) 100000)))))
set_option maxRecDepth 100000 in
set_option maxHeartbeats 4000000 in
theorem s_X8_slotsInUse {d : Nat} [zGh] (P : zP d) : zSim X_X8_slotsInUse 1 P 0 (b_X8_slotsInUse P) := by
  unfold b_X8_slotsInUse
  refine sm_iconst (pc := 0) dX8_slotsInUse_0 zc_i_0 ?_
  refine sm_istore_n (pc := 1) (n := 1) dX8_slotsInUse_1 rfl ?_
  refine sm_iconst (pc := 2) dX8_slotsInUse_2 zc_i_0 ?_
  refine sm_istore_n (pc := 3) (n := 2) dX8_slotsInUse_3 rfl ?_
  exact sm_loop (fun r4 hr4 => slX8_slotsInUse_4 P r4 hr4) _
noncomputable def f_X8_slotsInUse {d : Nat} : List zV → zH d → zP d → Bool := zfn 4 b_X8_slotsInUse
theorem m_X8_slotsInUse {d : Nat} : zMet (d := d) X_X8_slotsInUse yX8_slotsInUse 1 f_X8_slotsInUse := zmet_mk (X := X_X8_slotsInUse) (by decide) rfl rfl s_X8_slotsInUse

abbrev X_X8_addTimes : zM := (RX8, cX8_addTimes, 5, none, "addTimes")
noncomputable def lX8_addTimes_3 {d : Nat} (P : zP d) (r3 : zK d) : zK d := (xild 4 (xald 0 (xgfR 24 6 (xgfI 23 1 (xcmp tge (xvret P) (xald 0 (xgfR 24 3 (xild 4 (xdup2 (xlal (xlld 1 (xald 3 (xild 4 (xald1 0 (xi2l (xbinj zmulj (xbinj zaddj (xlas (xinc 4 1 r3)))))))))))))))))))
set_option maxRecDepth 100000 in
set_option maxHeartbeats 4000000 in
theorem slX8_addTimes_3 {d : Nat} [zGh] (P : zP d) (r3 : zK d) (hr3 : zSim X_X8_addTimes 1 P 3 r3) : zSim X_X8_addTimes 1 P 3 (lX8_addTimes_3 P r3) := by
  unfold lX8_addTimes_3
  refine sm_iload (pc := 3) (n := 4) dX8_addTimes_3 ?_
  refine sm_aload_n (pc := 5) (n := 0) dX8_addTimes_5 rfl ?_
  refine gf_X8_40 (pc := 6) rfl dX8_addTimes_6 ?_
  refine gf_X8_74 (pc := 9) rfl dX8_addTimes_9 ?_
  refine sm_icmp_ge (pc := 12) (tgt := 38) dX8_addTimes_12 (by decide) ?_ ?_
  · skip
    exact sm_vreturn (pc := 38) dX8_addTimes_38 rfl
  · skip
    refine sm_aload_n (pc := 15) (n := 0) dX8_addTimes_15 rfl ?_
    refine gf_X8_26 (pc := 16) rfl dX8_addTimes_16 ?_
    refine sm_iload (pc := 19) (n := 4) dX8_addTimes_19 ?_
    refine sm_dup2 (pc := 21) dX8_addTimes_21 ?_
    refine sm_laload (pc := 22) dX8_addTimes_22 ?_
    refine sm_lload_n (pc := 23) (n := 1) dX8_addTimes_23 rfl ?_
    refine sm_aload_n (pc := 24) (n := 3) dX8_addTimes_24 rfl ?_
    refine sm_iload (pc := 25) (n := 4) dX8_addTimes_25 ?_
    refine sm_iaload (pc := 27) dX8_addTimes_27 ?_
    refine sm_i2l (pc := 28) dX8_addTimes_28 ?_
    refine sm_lmul (pc := 29) dX8_addTimes_29 ?_
    refine sm_ladd (pc := 30) dX8_addTimes_30 ?_
    refine sm_lastore (pc := 31) dX8_addTimes_31 ?_
    refine sm_iinc (pc := 32) (n := 4) dX8_addTimes_32 zc_i_1 ?_
    refine sm_goto (pc := 35) (tgt := 3) dX8_addTimes_35 (by decide) ?_
    exact hr3
noncomputable def b_X8_addTimes {d : Nat} (P : zP d) : zK d := (xpI 0 (xist 4 (xloop (fun r3 => (lX8_addTimes_3 P r3)) 100000)))
set_option maxRecDepth 100000 in
set_option maxHeartbeats 4000000 in
theorem s_X8_addTimes {d : Nat} [zGh] (P : zP d) : zSim X_X8_addTimes 1 P 0 (b_X8_addTimes P) := by
  unfold b_X8_addTimes
  refine sm_iconst (pc := 0) dX8_addTimes_0 zc_i_0 ?_
  refine sm_istore (pc := 1) (n := 4) dX8_addTimes_1 ?_
  exact sm_loop (fun r3 hr3 => slX8_addTimes_3 P r3 hr3) _
noncomputable def f_X8_addTimes {d : Nat} : List zV → zH d → zP d → Bool := zfn 5 b_X8_addTimes
theorem m_X8_addTimes {d : Nat} : zMet (d := d) X_X8_addTimes yX8_addTimes 1 f_X8_addTimes := zmet_mk (X := X_X8_addTimes) (by decide) rfl rfl s_X8_addTimes

abbrev X_X8_init : zM := (RX8, cX8_init, 1, none, "<init>")
noncomputable def cX8_init_97 {d : Nat} (P : zP d) : zK d := (xcS 2 0 0 f_X8_groupIndex (xald 0 (xgfR 24 7 (xaas 7 21 (xald 0 (xnew 18 15 (xdup (xald 0 (xgfR 24 4 (xald 0 (xgfR 24 2 (xald 0 (xgfR 24 6 (xald 0 (xgfR 24 7 (xcV 18 5 26 240 f_X2_init (xpfR 24 5 (xvret P))))))))))))))))))
set_option maxRecDepth 100000 in
set_option maxHeartbeats 4000000 in
theorem scX8_init_97 {d : Nat} [zGh] (P : zP d) : zSim X_X8_init 13 P 97 (cX8_init_97 P) := by
  unfold cX8_init_97
  refine sm_cS (pc := 97) (n := 2) (mc := 0) (ms := 0) m_X8_groupIndex (cr_X8_51 (X := X_X8_init) (fr := 13) (frc := 1) (pc := 97) (mc := 0) (ms := 0) rfl (by decide) dX8_init_97) ?_
  refine sm_aload_n (pc := 100) (n := 0) dX8_init_100 rfl ?_
  refine gf_X8_47 (pc := 101) rfl dX8_init_101 ?_
  refine sm_aastore (pc := 104) (kc := 7) (ci := 5) (by decide) (by decide) rfl rfl (fun _ => rfl) dX8_init_104 ?_
  refine sm_aload_n (pc := 105) (n := 0) dX8_init_105 rfl ?_
  refine sm_new (pc := 106) (ci := 2) (C := RX2) (T := TX2) (N := 15) (ty0 := tyX2) rfl rfl (by decide) (by decide) inz2 tyX2_ok rfl wd_540 wd_541 wd_12 dX8_init_106 ?_
  refine sm_dup (pc := 109) dX8_init_109 ?_
  refine sm_aload_n (pc := 110) (n := 0) dX8_init_110 rfl ?_
  refine gf_X8_33 (pc := 111) rfl dX8_init_111 ?_
  refine sm_aload_n (pc := 114) (n := 0) dX8_init_114 rfl ?_
  refine gf_X8_23 (pc := 115) rfl dX8_init_115 ?_
  refine sm_aload_n (pc := 118) (n := 0) dX8_init_118 rfl ?_
  refine gf_X8_40 (pc := 119) rfl dX8_init_119 ?_
  refine sm_aload_n (pc := 122) (n := 0) dX8_init_122 rfl ?_
  refine gf_X8_47 (pc := 123) rfl dX8_init_123 ?_
  refine sm_cV (pc := 126) (ci := 2) (n := 5) (mc := 26) (ms := 240) rfl m_X2_init (cr_X8_57 (X := X_X8_init) (fr := 13) (frc := 2) (pc := 126) (mc := 26) (ms := 240) rfl (by decide) dX8_init_126) ?_
  refine pf_X8_60 (pc := 129) rfl rfl dX8_init_129 ?_
  exact sm_vreturn (pc := 132) dX8_init_132 rfl
noncomputable def cX8_init_53 {d : Nat} (P : zP d) : zK d := (xald 0 (xnew 23 14 (xdup (xpI 3 (xcV 23 2 800 77000 f_X7_init (xpfR 24 6 (xald 0 (xnew 21 12 (xdup (xald 0 (xgfR 24 6 (xpI 2 (xcV 21 3 170 2000 f_X5_init (xpfR 24 7 (xald 0 (xgfR 24 0 (xpI 3 (xald 0 (xgfR 24 6 (xaas 6 23 (xald 0 (xgfR 24 1 (xpI 3 (xpI 2 (cX8_init_97 P)))))))))))))))))))))))))
set_option maxRecDepth 100000 in
set_option maxHeartbeats 4000000 in
theorem scX8_init_53 {d : Nat} [zGh] (P : zP d) : zSim X_X8_init 13 P 53 (cX8_init_53 P) := by
  unfold cX8_init_53
  refine sm_aload_n (pc := 53) (n := 0) dX8_init_53 rfl ?_
  refine sm_new (pc := 54) (ci := 7) (C := RX7) (T := TX7) (N := 14) (ty0 := tyX7) rfl rfl (by decide) (by decide) inz7 tyX7_ok rfl wd_23 wd_47 wd_3 dX8_init_54 ?_
  refine sm_dup (pc := 57) dX8_init_57 ?_
  refine sm_iconst (pc := 58) dX8_init_58 zc_i_3 ?_
  refine sm_cV (pc := 59) (ci := 7) (n := 2) (mc := 800) (ms := 77000) rfl m_X7_init (cr_X8_37 (X := X_X8_init) (fr := 13) (frc := 12) (pc := 59) (mc := 800) (ms := 77000) rfl (by decide) dX8_init_59) ?_
  refine pf_X8_40 (pc := 62) rfl dX8_init_62 ?_
  refine sm_aload_n (pc := 65) (n := 0) dX8_init_65 rfl ?_
  refine sm_new (pc := 66) (ci := 5) (C := RX5) (T := TX5) (N := 12) (ty0 := tyX5) rfl rfl (by decide) (by decide) inz5 tyX5_ok rfl wd_25 wd_327 wd_9 dX8_init_66 ?_
  refine sm_dup (pc := 69) dX8_init_69 ?_
  refine sm_aload_n (pc := 70) (n := 0) dX8_init_70 rfl ?_
  refine gf_X8_40 (pc := 71) rfl dX8_init_71 ?_
  refine sm_iconst (pc := 74) dX8_init_74 zc_i_2 ?_
  refine sm_cV (pc := 75) (ci := 5) (n := 3) (mc := 170) (ms := 2000) rfl m_X5_init (cr_X8_44 (X := X_X8_init) (fr := 13) (frc := 6) (pc := 75) (mc := 170) (ms := 2000) rfl (by decide) dX8_init_75) ?_
  refine pf_X8_47 (pc := 78) rfl dX8_init_78 ?_
  refine sm_aload_n (pc := 81) (n := 0) dX8_init_81 rfl ?_
  refine gf_X8_11 (pc := 82) rfl dX8_init_82 ?_
  refine sm_iconst (pc := 85) dX8_init_85 zc_i_3 ?_
  refine sm_aload_n (pc := 86) (n := 0) dX8_init_86 rfl ?_
  refine gf_X8_40 (pc := 87) rfl dX8_init_87 ?_
  refine sm_aastore (pc := 90) (kc := 6) (ci := 7) (by decide) (by decide) rfl rfl (fun _ => rfl) dX8_init_90 ?_
  refine sm_aload_n (pc := 91) (n := 0) dX8_init_91 rfl ?_
  refine gf_X8_17 (pc := 92) rfl dX8_init_92 ?_
  refine sm_iconst (pc := 95) dX8_init_95 zc_i_3 ?_
  refine sm_iconst (pc := 96) dX8_init_96 zc_i_2 ?_
  exact scX8_init_97 P
noncomputable def b_X8_init {d : Nat} (P : zP d) : zK d := (xald 0 (xobj (xald 0 (xpI 7 (xnwa 6 (xpfR 24 0 (xald 0 (xpI 56 (xnwa 7 (xpfR 24 1 (xald 0 (xpI 6 (xpI 11 (xmnaD 4 2 (xpfR 24 2 (xald 0 (xpI 11 (xnwa 2 (xpfR 24 3 (xald 0 (xnew 22 2 (xdup (xcV 22 1 1 200 f_X6_init (xpfR 24 4 (cX8_init_53 P)))))))))))))))))))))))))
set_option maxRecDepth 100000 in
set_option maxHeartbeats 4000000 in
theorem s_X8_init {d : Nat} [zGh] (P : zP d) : zSim X_X8_init 13 P 0 (b_X8_init P) := by
  unfold b_X8_init
  refine sm_aload_n (pc := 0) (n := 0) dX8_init_0 rfl ?_
  refine sm_objinit (pc := 1) wd_20 wd_21 wd_22 (by decide) dX8_init_1 ?_
  refine sm_aload_n (pc := 4) (n := 0) dX8_init_4 rfl ?_
  refine sm_bipush (pc := 5) dX8_init_5 zc_b_7 ?_
  refine sm_anewarray (pc := 7) (kc := 6) (C := RX7) (by decide) (by decide) (fun _ => rfl) wd_23 (fun _ h => h.2.1) dX8_init_7 ?_
  refine pf_X8_11 (pc := 10) rfl rfl dX8_init_10 ?_
  refine sm_aload_n (pc := 13) (n := 0) dX8_init_13 rfl ?_
  refine sm_bipush (pc := 14) dX8_init_14 zc_b_56 ?_
  refine sm_anewarray (pc := 16) (kc := 7) (C := RX5) (by decide) (by decide) (fun _ => rfl) wd_25 (fun _ h => h.2.2.1) dX8_init_16 ?_
  refine pf_X8_17 (pc := 19) rfl rfl dX8_init_19 ?_
  refine sm_aload_n (pc := 22) (n := 0) dX8_init_22 rfl ?_
  refine sm_bipush (pc := 23) dX8_init_23 zc_b_6 ?_
  refine sm_bipush (pc := 25) dX8_init_25 zc_b_11 ?_
  refine sm_mnaDJ (pc := 27) wd_27 wd_45 dX8_init_27 ?_
  refine pf_X8_23 (pc := 31) rfl rfl dX8_init_31 ?_
  refine sm_aload_n (pc := 34) (n := 0) dX8_init_34 rfl ?_
  refine sm_bipush (pc := 35) dX8_init_35 zc_b_11 ?_
  refine sm_newJ (pc := 37) dX8_init_37 wd_45 ?_
  refine pf_X8_26 (pc := 39) rfl rfl dX8_init_39 ?_
  refine sm_aload_n (pc := 42) (n := 0) dX8_init_42 rfl ?_
  refine sm_new (pc := 43) (ci := 6) (C := RX6) (T := TX6) (N := 2) (ty0 := tyX6) rfl rfl (by decide) (by decide) inz6 tyX6_ok rfl wd_29 wd_30 wd_2 dX8_init_43 ?_
  refine sm_dup (pc := 46) dX8_init_46 ?_
  refine sm_cV (pc := 47) (ci := 6) (n := 1) (mc := 1) (ms := 200) rfl m_X6_init (cr_X8_32 (X := X_X8_init) (fr := 13) (frc := 1) (pc := 47) (mc := 1) (ms := 200) rfl (by decide) dX8_init_47) ?_
  refine pf_X8_33 (pc := 50) rfl rfl dX8_init_50 ?_
  exact scX8_init_53 P
noncomputable def f_X8_init {d : Nat} : List zV → zH d → zP d → Bool := zfn 1 b_X8_init
theorem m_X8_init {d : Nat} : zMet (d := d) X_X8_init yX8_init 13 f_X8_init := zmet_mk (X := X_X8_init) (by decide) rfl rfl s_X8_init

abbrev X_X8_group : zM := (RX8, cX8_group, 5, (some .int), "group")
noncomputable def bX8_group_32 {d : Nat} (P : zP d) : zK d := (xpI 4294967295 (xiret P))
set_option maxRecDepth 100000 in
set_option maxHeartbeats 4000000 in
theorem sbX8_group_32 {d : Nat} [zGh] (P : zP d) : zSim X_X8_group 13 P 32 (bX8_group_32 P) := by
  unfold bX8_group_32
  refine sm_iconst (pc := 32) dX8_group_32 zc_i_m1 ?_
  exact sm_ireturn (pc := 33) dX8_group_33 rfl
noncomputable def lX8_group_128 {d : Nat} (P : zP d) (r128 : zK d) : zK d := (xild 4 (xpI 6 (xcmp tge (xald 0 (xgfR 24 6 (xgfI 23 1 (xiret P)))) (xald 0 (xgfR 24 2 (xild 4 (xaal (xpL 0 (xcS 2 0 0 f_J7_fill_d0a16 (xinc 4 1 r128))))))))))
set_option maxRecDepth 100000 in
set_option maxHeartbeats 4000000 in
theorem slX8_group_128 {d : Nat} [zGh] (P : zP d) (r128 : zK d) (hr128 : zSim X_X8_group 13 P 128 r128) : zSim X_X8_group 13 P 128 (lX8_group_128 P r128) := by
  unfold lX8_group_128
  refine sm_iload (pc := 128) (n := 4) dX8_group_128 ?_
  refine sm_bipush (pc := 130) dX8_group_130 zc_b_6 ?_
  refine sm_icmp_ge (pc := 132) (tgt := 152) dX8_group_132 (by decide) ?_ ?_
  · skip
    refine sm_aload_n (pc := 152) (n := 0) dX8_group_152 rfl ?_
    refine gf_X8_40 (pc := 153) rfl dX8_group_153 ?_
    refine gf_X8_74 (pc := 156) rfl dX8_group_156 ?_
    exact sm_ireturn (pc := 159) dX8_group_159 rfl
  · skip
    refine sm_aload_n (pc := 135) (n := 0) dX8_group_135 rfl ?_
    refine gf_X8_23 (pc := 136) rfl dX8_group_136 ?_
    refine sm_iload (pc := 139) (n := 4) dX8_group_139 ?_
    refine sm_aaload (pc := 141) dX8_group_141 ?_
    refine sm_lconst (pc := 142) dX8_group_142 zc_l_0 ?_
    refine sm_cS (pc := 143) (n := 2) (mc := 0) (ms := 0) m_J7_fill_d0a16 (cr_X8_68 (X := X_X8_group) (fr := 13) (frc := 1) (pc := 143) (mc := 0) (ms := 0) rfl (by decide) dX8_group_143) ?_
    refine sm_iinc (pc := 146) (n := 4) dX8_group_146 zc_i_1 ?_
    refine sm_goto (pc := 149) (tgt := 128) dX8_group_149 (by decide) ?_
    exact hr128
noncomputable def bX8_group_100 {d : Nat} (P : zP d) : zK d := (xald 0 (xald 0 (xgfR 24 1 (xild 3 (xaal (xpfR 24 7 (xald 0 (xgfR 24 5 (xald 0 (xgfR 24 6 (xald 0 (xgfR 24 7 (xcV 18 3 0 0 f_X2_turnTo (xpI 0 (xist 4 (xloop (fun r128 => (lX8_group_128 P r128)) 100000))))))))))))))))
set_option maxRecDepth 100000 in
set_option maxHeartbeats 4000000 in
theorem sbX8_group_100 {d : Nat} [zGh] (P : zP d) : zSim X_X8_group 13 P 100 (bX8_group_100 P) := by
  unfold bX8_group_100
  refine sm_aload_n (pc := 100) (n := 0) dX8_group_100 rfl ?_
  refine sm_aload_n (pc := 101) (n := 0) dX8_group_101 rfl ?_
  refine gf_X8_17 (pc := 102) rfl dX8_group_102 ?_
  refine sm_iload_n (pc := 105) (n := 3) dX8_group_105 rfl ?_
  refine sm_aaload (pc := 106) dX8_group_106 ?_
  refine pf_X8_47 (pc := 107) rfl dX8_group_107 ?_
  refine sm_aload_n (pc := 110) (n := 0) dX8_group_110 rfl ?_
  refine gf_X8_60 (pc := 111) rfl dX8_group_111 ?_
  refine sm_aload_n (pc := 114) (n := 0) dX8_group_114 rfl ?_
  refine gf_X8_40 (pc := 115) rfl dX8_group_115 ?_
  refine sm_aload_n (pc := 118) (n := 0) dX8_group_118 rfl ?_
  refine gf_X8_47 (pc := 119) rfl dX8_group_119 ?_
  refine sm_cV (pc := 122) (ci := 2) (n := 3) (mc := 0) (ms := 0) rfl m_X2_turnTo (cr_X8_64 (X := X_X8_group) (fr := 13) (frc := 1) (pc := 122) (mc := 0) (ms := 0) rfl (by decide) dX8_group_122) ?_
  refine sm_iconst (pc := 125) dX8_group_125 zc_i_0 ?_
  refine sm_istore (pc := 126) (n := 4) dX8_group_126 ?_
  exact sm_loop (fun r128 hr128 => slX8_group_128 P r128 hr128) _
noncomputable def cX8_group_99 {d : Nat} (P : zP d) (j100 : zK d) : zK d := (xaas 7 21 j100)
set_option maxRecDepth 100000 in
set_option maxHeartbeats 4000000 in
theorem scX8_group_99 {d : Nat} [zGh] (P : zP d) (j100 : zK d) (hj100 : zSim X_X8_group 13 P 100 j100) : zSim X_X8_group 13 P 99 (cX8_group_99 P j100) := by
  unfold cX8_group_99
  refine sm_aastore (pc := 99) (kc := 7) (ci := 5) (by decide) (by decide) rfl rfl (fun _ => rfl) dX8_group_99 ?_
  exact hj100
noncomputable def bX8_group_57 {d : Nat} (P : zP d) : zK d := (xald 0 (xald 0 (xgfR 24 0 (xild 1 (xaal (xpfR 24 6 (xild 1 (xild 2 (xcS 2 0 0 f_X8_groupIndex (xist 3 (xald 0 (xgfR 24 1 (xild 3 (xaal (xjoin (bX8_group_100 P) (fun j100 => (xnn j100 (xald 0 (xgfR 24 1 (xild 3 (xnew 21 12 (xdup (xald 0 (xgfR 24 6 (xild 2 (xcV 21 3 170 2000 f_X5_init (cX8_group_99 P j100)))))))))))))))))))))))))))
set_option maxRecDepth 100000 in
set_option maxHeartbeats 4000000 in
theorem sbX8_group_57 {d : Nat} [zGh] (P : zP d) : zSim X_X8_group 13 P 57 (bX8_group_57 P) := by
  unfold bX8_group_57
  refine sm_aload_n (pc := 57) (n := 0) dX8_group_57 rfl ?_
  refine sm_aload_n (pc := 58) (n := 0) dX8_group_58 rfl ?_
  refine gf_X8_11 (pc := 59) rfl dX8_group_59 ?_
  refine sm_iload_n (pc := 62) (n := 1) dX8_group_62 rfl ?_
  refine sm_aaload (pc := 63) dX8_group_63 ?_
  refine pf_X8_40 (pc := 64) rfl dX8_group_64 ?_
  refine sm_iload_n (pc := 67) (n := 1) dX8_group_67 rfl ?_
  refine sm_iload_n (pc := 68) (n := 2) dX8_group_68 rfl ?_
  refine sm_cS (pc := 69) (n := 2) (mc := 0) (ms := 0) m_X8_groupIndex (cr_X8_51 (X := X_X8_group) (fr := 13) (frc := 1) (pc := 69) (mc := 0) (ms := 0) rfl (by decide) dX8_group_69) ?_
  refine sm_istore_n (pc := 72) (n := 3) dX8_group_72 rfl ?_
  refine sm_aload_n (pc := 73) (n := 0) dX8_group_73 rfl ?_
  refine gf_X8_17 (pc := 74) rfl dX8_group_74 ?_
  refine sm_iload_n (pc := 77) (n := 3) dX8_group_77 rfl ?_
  refine sm_aaload (pc := 78) dX8_group_78 ?_
  refine sm_join (pc := 79) (pc' := 100) (sbX8_group_100 P) (fun j100 hj100 => ?_)
  refine sm_ifnonnull (pc := 79) (tgt := 100) dX8_group_79 (by decide) ?_ ?_
  · skip
    exact hj100
  · skip
    refine sm_aload_n (pc := 82) (n := 0) dX8_group_82 rfl ?_
    refine gf_X8_17 (pc := 83) rfl dX8_group_83 ?_
    refine sm_iload_n (pc := 86) (n := 3) dX8_group_86 rfl ?_
    refine sm_new (pc := 87) (ci := 5) (C := RX5) (T := TX5) (N := 12) (ty0 := tyX5) rfl rfl (by decide) (by decide) inz5 tyX5_ok rfl wd_25 wd_327 wd_9 dX8_group_87 ?_
    refine sm_dup (pc := 90) dX8_group_90 ?_
    refine sm_aload_n (pc := 91) (n := 0) dX8_group_91 rfl ?_
    refine gf_X8_40 (pc := 92) rfl dX8_group_92 ?_
    refine sm_iload_n (pc := 95) (n := 2) dX8_group_95 rfl ?_
    refine sm_cV (pc := 96) (ci := 5) (n := 3) (mc := 170) (ms := 2000) rfl m_X5_init (cr_X8_44 (X := X_X8_group) (fr := 13) (frc := 6) (pc := 96) (mc := 170) (ms := 2000) rfl (by decide) dX8_group_96) ?_
    exact scX8_group_99 P j100 hj100
noncomputable def bX8_group_34 {d : Nat} (P : zP d) : zK d := (xald 0 (xgfR 24 0 (xild 1 (xaal (xjoin (bX8_group_57 P) (fun j57 => (xnn j57 (xald 0 (xgfR 24 0 (xild 1 (xnew 23 14 (xdup (xild 1 (xcV 23 2 800 77000 f_X7_init (xaas 6 23 j57)))))))))))))))
set_option maxRecDepth 100000 in
set_option maxHeartbeats 4000000 in
theorem sbX8_group_34 {d : Nat} [zGh] (P : zP d) : zSim X_X8_group 13 P 34 (bX8_group_34 P) := by
  unfold bX8_group_34
  refine sm_aload_n (pc := 34) (n := 0) dX8_group_34 rfl ?_
  refine gf_X8_11 (pc := 35) rfl dX8_group_35 ?_
  refine sm_iload_n (pc := 38) (n := 1) dX8_group_38 rfl ?_
  refine sm_aaload (pc := 39) dX8_group_39 ?_
  refine sm_join (pc := 40) (pc' := 57) (sbX8_group_57 P) (fun j57 hj57 => ?_)
  refine sm_ifnonnull (pc := 40) (tgt := 57) dX8_group_40 (by decide) ?_ ?_
  · skip
    exact hj57
  · skip
    refine sm_aload_n (pc := 43) (n := 0) dX8_group_43 rfl ?_
    refine gf_X8_11 (pc := 44) rfl dX8_group_44 ?_
    refine sm_iload_n (pc := 47) (n := 1) dX8_group_47 rfl ?_
    refine sm_new (pc := 48) (ci := 7) (C := RX7) (T := TX7) (N := 14) (ty0 := tyX7) rfl rfl (by decide) (by decide) inz7 tyX7_ok rfl wd_23 wd_47 wd_3 dX8_group_48 ?_
    refine sm_dup (pc := 51) dX8_group_51 ?_
    refine sm_iload_n (pc := 52) (n := 1) dX8_group_52 rfl ?_
    refine sm_cV (pc := 53) (ci := 7) (n := 2) (mc := 800) (ms := 77000) rfl m_X7_init (cr_X8_37 (X := X_X8_group) (fr := 13) (frc := 12) (pc := 53) (mc := 800) (ms := 77000) rfl (by decide) dX8_group_53) ?_
    refine sm_aastore (pc := 56) (kc := 6) (ci := 7) (by decide) (by decide) rfl rfl (fun _ => rfl) dX8_group_56 ?_
    exact hj57
noncomputable def b_X8_group {d : Nat} (P : zP d) : zK d := (xild 1 (xpI 1 (xjoin (bX8_group_32 P) (fun j32 => (xcmp tge (xild 1 (xpI 6 (xcmp tle (xild 2 (xpI 2 (xjoin (bX8_group_34 P) (fun j34 => (xcmp Nat.beq j34 (xild 2 (xpI 3 (xcmp Nat.beq j34 (xild 2 (xpI 5 (xcmp Nat.beq j34 (xild 2 (xpI 7 (xcmp Nat.beq j34 j32)))))))))))))) j32))) j32)))))
set_option maxRecDepth 100000 in
set_option maxHeartbeats 4000000 in
theorem s_X8_group {d : Nat} [zGh] (P : zP d) : zSim X_X8_group 13 P 0 (b_X8_group P) := by
  unfold b_X8_group
  refine sm_iload_n (pc := 0) (n := 1) dX8_group_0 rfl ?_
  refine sm_iconst (pc := 1) dX8_group_1 zc_i_1 ?_
  refine sm_join (pc := 2) (pc' := 32) (sbX8_group_32 P) (fun j32 hj32 => ?_)
  refine sm_icmp_lt (pc := 2) (tgt := 32) dX8_group_2 (by decide) ?_ ?_
  · skip
    exact hj32
  · skip
    refine sm_iload_n (pc := 5) (n := 1) dX8_group_5 rfl ?_
    refine sm_bipush (pc := 6) dX8_group_6 zc_b_6 ?_
    refine sm_icmp_gt (pc := 8) (tgt := 32) dX8_group_8 (by decide) ?_ ?_
    · skip
      exact hj32
    · skip
      refine sm_iload_n (pc := 11) (n := 2) dX8_group_11 rfl ?_
      refine sm_iconst (pc := 12) dX8_group_12 zc_i_2 ?_
      refine sm_join (pc := 13) (pc' := 34) (sbX8_group_34 P) (fun j34 hj34 => ?_)
      refine sm_icmp_eq (pc := 13) (tgt := 34) dX8_group_13 (by decide) ?_ ?_
      · skip
        exact hj34
      · skip
        refine sm_iload_n (pc := 16) (n := 2) dX8_group_16 rfl ?_
        refine sm_iconst (pc := 17) dX8_group_17 zc_i_3 ?_
        refine sm_icmp_eq (pc := 18) (tgt := 34) dX8_group_18 (by decide) ?_ ?_
        · skip
          exact hj34
        · skip
          refine sm_iload_n (pc := 21) (n := 2) dX8_group_21 rfl ?_
          refine sm_iconst (pc := 22) dX8_group_22 zc_i_5 ?_
          refine sm_icmp_eq (pc := 23) (tgt := 34) dX8_group_23 (by decide) ?_ ?_
          · skip
            exact hj34
          · skip
            refine sm_iload_n (pc := 26) (n := 2) dX8_group_26 rfl ?_
            refine sm_bipush (pc := 27) dX8_group_27 zc_b_7 ?_
            refine sm_icmp_eq (pc := 29) (tgt := 34) dX8_group_29 (by decide) ?_ ?_
            · skip
              exact hj34
            · skip
              exact hj32
noncomputable def f_X8_group {d : Nat} : List zV → zH d → zP d → Bool := zfn 5 b_X8_group
theorem m_X8_group {d : Nat} : zMet (d := d) X_X8_group yX8_group 13 f_X8_group := zmet_mk (X := X_X8_group) (by decide) rfl rfl s_X8_group

abbrev X_X8_feed : zM := (RX8, cX8_feed, 6, (some .int), "feed")
noncomputable def cX8_feed_53 {d : Nat} (P : zP d) : zK d := (xcV 22 2 0 0 f_X6_put (xald 0 (xgfR 24 4 (xgfI 22 1 (xiret P)))))
set_option maxRecDepth 100000 in
set_option maxHeartbeats 4000000 in
theorem scX8_feed_53 {d : Nat} [zGh] (P : zP d) : zSim X_X8_feed 2 P 53 (cX8_feed_53 P) := by
  unfold cX8_feed_53
  refine sm_cV (pc := 53) (ci := 6) (n := 2) (mc := 0) (ms := 0) rfl m_X6_put (cr_X8_82 (X := X_X8_feed) (fr := 2) (frc := 1) (pc := 53) (mc := 0) (ms := 0) rfl (by decide) dX8_feed_53) ?_
  refine sm_aload_n (pc := 56) (n := 0) dX8_feed_56 rfl ?_
  refine gf_X8_33 (pc := 57) rfl dX8_feed_57 ?_
  refine gf_X8_85 (pc := 60) rfl dX8_feed_60 ?_
  exact sm_ireturn (pc := 63) dX8_feed_63 rfl
noncomputable def b_X8_feed {d : Nat} (P : zP d) : zK d := (xald 0 (xgfR 24 4 (xpI 20 (xcV 22 2 0 0 f_X6_hasRoom (xif0 t0eq (xpI 4294967295 (xiret P)) (xald 0 (xgfR 24 4 (xild 1 (xcV 22 2 0 0 f_X6_put (xald 0 (xgfR 24 4 (xild 2 (xcV 22 2 0 0 f_X6_put (xald 0 (xgfR 24 4 (xild 3 (xcV 22 2 0 0 f_X6_put (xald 0 (xgfR 24 4 (xild 4 (xcV 22 2 0 0 f_X6_put (xald 0 (xgfR 24 4 (xild 5 (cX8_feed_53 P)))))))))))))))))))))))))
set_option maxRecDepth 100000 in
set_option maxHeartbeats 4000000 in
theorem s_X8_feed {d : Nat} [zGh] (P : zP d) : zSim X_X8_feed 2 P 0 (b_X8_feed P) := by
  unfold b_X8_feed
  refine sm_aload_n (pc := 0) (n := 0) dX8_feed_0 rfl ?_
  refine gf_X8_33 (pc := 1) rfl dX8_feed_1 ?_
  refine sm_bipush (pc := 4) dX8_feed_4 zc_b_20 ?_
  refine sm_cV (pc := 6) (ci := 6) (n := 2) (mc := 0) (ms := 0) rfl m_X6_hasRoom (cr_X8_78 (X := X_X8_feed) (fr := 2) (frc := 1) (pc := 6) (mc := 0) (ms := 0) rfl (by decide) dX8_feed_6) ?_
  refine sm_if_ne (pc := 9) (tgt := 14) dX8_feed_9 (by decide) ?_ ?_
  · skip
    refine sm_aload_n (pc := 14) (n := 0) dX8_feed_14 rfl ?_
    refine gf_X8_33 (pc := 15) rfl dX8_feed_15 ?_
    refine sm_iload_n (pc := 18) (n := 1) dX8_feed_18 rfl ?_
    refine sm_cV (pc := 19) (ci := 6) (n := 2) (mc := 0) (ms := 0) rfl m_X6_put (cr_X8_82 (X := X_X8_feed) (fr := 2) (frc := 1) (pc := 19) (mc := 0) (ms := 0) rfl (by decide) dX8_feed_19) ?_
    refine sm_aload_n (pc := 22) (n := 0) dX8_feed_22 rfl ?_
    refine gf_X8_33 (pc := 23) rfl dX8_feed_23 ?_
    refine sm_iload_n (pc := 26) (n := 2) dX8_feed_26 rfl ?_
    refine sm_cV (pc := 27) (ci := 6) (n := 2) (mc := 0) (ms := 0) rfl m_X6_put (cr_X8_82 (X := X_X8_feed) (fr := 2) (frc := 1) (pc := 27) (mc := 0) (ms := 0) rfl (by decide) dX8_feed_27) ?_
    refine sm_aload_n (pc := 30) (n := 0) dX8_feed_30 rfl ?_
    refine gf_X8_33 (pc := 31) rfl dX8_feed_31 ?_
    refine sm_iload_n (pc := 34) (n := 3) dX8_feed_34 rfl ?_
    refine sm_cV (pc := 35) (ci := 6) (n := 2) (mc := 0) (ms := 0) rfl m_X6_put (cr_X8_82 (X := X_X8_feed) (fr := 2) (frc := 1) (pc := 35) (mc := 0) (ms := 0) rfl (by decide) dX8_feed_35) ?_
    refine sm_aload_n (pc := 38) (n := 0) dX8_feed_38 rfl ?_
    refine gf_X8_33 (pc := 39) rfl dX8_feed_39 ?_
    refine sm_iload (pc := 42) (n := 4) dX8_feed_42 ?_
    refine sm_cV (pc := 44) (ci := 6) (n := 2) (mc := 0) (ms := 0) rfl m_X6_put (cr_X8_82 (X := X_X8_feed) (fr := 2) (frc := 1) (pc := 44) (mc := 0) (ms := 0) rfl (by decide) dX8_feed_44) ?_
    refine sm_aload_n (pc := 47) (n := 0) dX8_feed_47 rfl ?_
    refine gf_X8_33 (pc := 48) rfl dX8_feed_48 ?_
    refine sm_iload (pc := 51) (n := 5) dX8_feed_51 ?_
    exact scX8_feed_53 P
  · skip
    refine sm_iconst (pc := 12) dX8_feed_12 zc_i_m1 ?_
    exact sm_ireturn (pc := 13) dX8_feed_13 rfl
noncomputable def f_X8_feed {d : Nat} : List zV → zH d → zP d → Bool := zfn 6 b_X8_feed
theorem m_X8_feed {d : Nat} : zMet (d := d) X_X8_feed yX8_feed 2 f_X8_feed := zmet_mk (X := X_X8_feed) (by decide) rfl rfl s_X8_feed

abbrev X_X8_end : zM := (RX8, cX8_end, 2, (some .boolean), "end")
noncomputable def bX8_end_15 {d : Nat} (P : zP d) : zK d := (xpI 0 (xzret P))
set_option maxRecDepth 100000 in
set_option maxHeartbeats 4000000 in
theorem sbX8_end_15 {d : Nat} [zGh] (P : zP d) : zSim X_X8_end 1 P 15 (bX8_end_15 P) := by
  unfold bX8_end_15
  refine sm_iconst (pc := 15) dX8_end_15 zc_i_0 ?_
  exact sm_zreturn (pc := 16) dX8_end_16 rfl
noncomputable def b_X8_end {d : Nat} (P : zP d) : zK d := (xild 1 (xjoin (bX8_end_15 P) (fun j15 => (xif0 t0ge (xild 1 (xald 0 (xgfR 24 4 (xgfI 22 1 (xcmp tle (xald 0 (xgfR 24 4 (xild 1 (xpfI 22 1 (xpI 1 (xzret P)))))) j15))))) j15))))
set_option maxRecDepth 100000 in
set_option maxHeartbeats 4000000 in
theorem s_X8_end {d : Nat} [zGh] (P : zP d) : zSim X_X8_end 1 P 0 (b_X8_end P) := by
  unfold b_X8_end
  refine sm_iload_n (pc := 0) (n := 1) dX8_end_0 rfl ?_
  refine sm_join (pc := 1) (pc' := 15) (sbX8_end_15 P) (fun j15 hj15 => ?_)
  refine sm_if_lt (pc := 1) (tgt := 15) dX8_end_1 (by decide) ?_ ?_
  · skip
    exact hj15
  · skip
    refine sm_iload_n (pc := 4) (n := 1) dX8_end_4 rfl ?_
    refine sm_aload_n (pc := 5) (n := 0) dX8_end_5 rfl ?_
    refine gf_X8_33 (pc := 6) rfl dX8_end_6 ?_
    refine gf_X8_85 (pc := 9) rfl dX8_end_9 ?_
    refine sm_icmp_le (pc := 12) (tgt := 17) dX8_end_12 (by decide) ?_ ?_
    · skip
      refine sm_aload_n (pc := 17) (n := 0) dX8_end_17 rfl ?_
      refine gf_X8_33 (pc := 18) rfl dX8_end_18 ?_
      refine sm_iload_n (pc := 21) (n := 1) dX8_end_21 rfl ?_
      refine pf_X8_85 (pc := 22) rfl dX8_end_22 ?_
      refine sm_iconst (pc := 25) dX8_end_25 zc_i_1 ?_
      exact sm_zreturn (pc := 26) dX8_end_26 rfl
    · skip
      exact hj15
noncomputable def f_X8_end {d : Nat} : List zV → zH d → zP d → Bool := zfn 2 b_X8_end
theorem m_X8_end {d : Nat} : zMet (d := d) X_X8_end yX8_end 1 f_X8_end := zmet_mk (X := X_X8_end) (by decide) rfl rfl s_X8_end

abbrev X_X8_text : zM := (RX8, cX8_text, 3, (some .int), "text")
noncomputable def bX8_text_62 {d : Nat} (P : zP d) : zK d := (xald 0 (xgfR 24 4 (xpI 0 (xpfI 22 1 (xild 2 (xiret P))))))
set_option maxRecDepth 100000 in
set_option maxHeartbeats 4000000 in
theorem sbX8_text_62 {d : Nat} [zGh] (P : zP d) : zSim X_X8_text 30 P 62 (bX8_text_62 P) := by
  unfold bX8_text_62
  refine sm_aload_n (pc := 62) (n := 0) dX8_text_62 rfl ?_
  refine gf_X8_33 (pc := 63) rfl dX8_text_63 ?_
  refine sm_iconst (pc := 66) dX8_text_66 zc_i_0 ?_
  refine pf_X8_85 (pc := 67) rfl dX8_text_67 ?_
  refine sm_iload_n (pc := 70) (n := 2) dX8_text_70 rfl ?_
  exact sm_ireturn (pc := 71) dX8_text_71 rfl
noncomputable def cX8_text_57 {d : Nat} (P : zP d) (j62 : zK d) : zK d := j62
set_option maxRecDepth 100000 in
set_option maxHeartbeats 4000000 in
theorem scX8_text_57 {d : Nat} [zGh] (P : zP d) (j62 : zK d) (hj62 : zSim X_X8_text 30 P 62 j62) : zSim X_X8_text 30 P 57 (cX8_text_57 P j62) := by
  unfold cX8_text_57
  refine sm_goto (pc := 57) (tgt := 62) dX8_text_57 (by decide) ?_
  exact hj62
noncomputable def b_X8_text {d : Nat} (P : zP d) : zK d := (xpI 4294967294 (xist 2 (xild 1 (xcS 1 0 0 f_X8_isSlot (xjoin (bX8_text_62 P) (fun j62 => (xif0 t0eq (xald 0 (xgfR 24 5 (xgfR 18 0 (xcV 17 1 0 0 f_X1_clear j62)))) (xald 0 (xgfR 24 5 (xcV 18 1 0 0 f_X2_read (xif0 t0eq (xpI 4294967295 (xist 2 j62)) (xald 0 (xgfR 24 5 (xgfR 18 1 (xpI 0 (xaal (xpI 0 (xald 0 (xgfR 24 2 (xild 1 (xaal (xpI 0 (xpI 11 (xcpy 2 72 (xpI 0 (xist 2 (cX8_text_57 P j62)))))))))))))))))))))))))))
set_option maxRecDepth 100000 in
set_option maxHeartbeats 4000000 in
theorem s_X8_text {d : Nat} [zGh] (P : zP d) : zSim X_X8_text 30 P 0 (b_X8_text P) := by
  unfold b_X8_text
  refine sm_bipush (pc := 0) dX8_text_0 zc_b_m2 ?_
  refine sm_istore_n (pc := 2) (n := 2) dX8_text_2 rfl ?_
  refine sm_iload_n (pc := 3) (n := 1) dX8_text_3 rfl ?_
  refine sm_cS (pc := 4) (n := 1) (mc := 0) (ms := 0) m_X8_isSlot (cr_X8_88 (X := X_X8_text) (fr := 30) (frc := 1) (pc := 4) (mc := 0) (ms := 0) rfl (by decide) dX8_text_4) ?_
  refine sm_join (pc := 7) (pc' := 62) (sbX8_text_62 P) (fun j62 hj62 => ?_)
  refine sm_if_ne (pc := 7) (tgt := 23) dX8_text_7 (by decide) ?_ ?_
  · skip
    refine sm_aload_n (pc := 23) (n := 0) dX8_text_23 rfl ?_
    refine gf_X8_60 (pc := 24) rfl dX8_text_24 ?_
    refine sm_cV (pc := 27) (ci := 2) (n := 1) (mc := 0) (ms := 0) rfl m_X2_read (cr_X8_100 (X := X_X8_text) (fr := 30) (frc := 29) (pc := 27) (mc := 0) (ms := 0) rfl (by decide) dX8_text_27) ?_
    refine sm_if_eq (pc := 30) (tgt := 60) dX8_text_30 (by decide) ?_ ?_
    · skip
      refine sm_iconst (pc := 60) dX8_text_60 zc_i_m1 ?_
      refine sm_istore_n (pc := 61) (n := 2) dX8_text_61 rfl ?_
      exact hj62
    · skip
      refine sm_aload_n (pc := 33) (n := 0) dX8_text_33 rfl ?_
      refine gf_X8_60 (pc := 34) rfl dX8_text_34 ?_
      refine gf_X8_104 (pc := 37) rfl dX8_text_37 ?_
      refine sm_iconst (pc := 40) dX8_text_40 zc_i_0 ?_
      refine sm_aaload (pc := 41) dX8_text_41 ?_
      refine sm_iconst (pc := 42) dX8_text_42 zc_i_0 ?_
      refine sm_aload_n (pc := 43) (n := 0) dX8_text_43 rfl ?_
      refine gf_X8_23 (pc := 44) rfl dX8_text_44 ?_
      refine sm_iload_n (pc := 47) (n := 1) dX8_text_47 rfl ?_
      refine sm_aaload (pc := 48) dX8_text_48 ?_
      refine sm_iconst (pc := 49) dX8_text_49 zc_i_0 ?_
      refine sm_bipush (pc := 50) dX8_text_50 zc_b_11 ?_
      refine sm_copyJ (pc := 52) wd_771 wd_80 wd_79 wd_7 (by decide) dX8_text_52 ?_
      refine sm_iconst (pc := 55) dX8_text_55 zc_i_0 ?_
      refine sm_istore_n (pc := 56) (n := 2) dX8_text_56 rfl ?_
      exact scX8_text_57 P j62 hj62
  · skip
    refine sm_aload_n (pc := 10) (n := 0) dX8_text_10 rfl ?_
    refine gf_X8_60 (pc := 11) rfl dX8_text_11 ?_
    refine gf_X8_91 (pc := 14) rfl dX8_text_14 ?_
    refine sm_cV (pc := 17) (ci := 1) (n := 1) (mc := 0) (ms := 0) rfl m_X1_clear (cr_X8_95 (X := X_X8_text) (fr := 30) (frc := 1) (pc := 17) (mc := 0) (ms := 0) rfl (by decide) dX8_text_17) ?_
    refine sm_goto (pc := 20) (tgt := 62) dX8_text_20 (by decide) ?_
    exact hj62
noncomputable def f_X8_text {d : Nat} : List zV → zH d → zP d → Bool := zfn 3 b_X8_text
theorem m_X8_text {d : Nat} : zMet (d := d) X_X8_text yX8_text 30 f_X8_text := zmet_mk (X := X_X8_text) (by decide) rfl rfl s_X8_text

abbrev X_X8_fault : zM := (RX8, cX8_fault, 3, (some .int), "fault")
noncomputable def bX8_fault_68 {d : Nat} (P : zP d) : zK d := (xpI 4294967295 (xiret P))
set_option maxRecDepth 100000 in
set_option maxHeartbeats 4000000 in
theorem sbX8_fault_68 {d : Nat} [zGh] (P : zP d) : zSim X_X8_fault 1 P 68 (bX8_fault_68 P) := by
  unfold bX8_fault_68
  refine sm_iconst (pc := 68) dX8_fault_68 zc_i_m1 ?_
  exact sm_ireturn (pc := 69) dX8_fault_69 rfl
noncomputable def bX8_fault_51 {d : Nat} (P : zP d) : zK d := (xild 1 (xpI 10 (xjoin (bX8_fault_68 P) (fun j68 => (xcmp tge (xild 1 (xpI 10 (xbin zsub (xald 2 (xgfI 17 3 (xcmp tge j68 (xald 2 (xgfR 17 2 (xild 1 (xpI 10 (xbin zsub (xald1 0 (xiret P))))))))))))) j68)))))
set_option maxRecDepth 100000 in
set_option maxHeartbeats 4000000 in
theorem sbX8_fault_51 {d : Nat} [zGh] (P : zP d) : zSim X_X8_fault 1 P 51 (bX8_fault_51 P) := by
  unfold bX8_fault_51
  refine sm_iload_n (pc := 51) (n := 1) dX8_fault_51 rfl ?_
  refine sm_bipush (pc := 52) dX8_fault_52 zc_b_10 ?_
  refine sm_join (pc := 54) (pc' := 68) (sbX8_fault_68 P) (fun j68 hj68 => ?_)
  refine sm_icmp_lt (pc := 54) (tgt := 68) dX8_fault_54 (by decide) ?_ ?_
  · skip
    exact hj68
  · skip
    refine sm_iload_n (pc := 57) (n := 1) dX8_fault_57 rfl ?_
    refine sm_bipush (pc := 58) dX8_fault_58 zc_b_10 ?_
    refine sm_isub (pc := 60) dX8_fault_60 ?_
    refine sm_aload_n (pc := 61) (n := 2) dX8_fault_61 rfl ?_
    refine gf_X8_119 (pc := 62) rfl dX8_fault_62 ?_
    refine sm_icmp_lt (pc := 65) (tgt := 70) dX8_fault_65 (by decide) ?_ ?_
    · skip
      refine sm_aload_n (pc := 70) (n := 2) dX8_fault_70 rfl ?_
      refine gf_X8_122 (pc := 71) rfl dX8_fault_71 ?_
      refine sm_iload_n (pc := 74) (n := 1) dX8_fault_74 rfl ?_
      refine sm_bipush (pc := 75) dX8_fault_75 zc_b_10 ?_
      refine sm_isub (pc := 77) dX8_fault_77 ?_
      refine sm_iaload (pc := 78) dX8_fault_78 ?_
      exact sm_ireturn (pc := 79) dX8_fault_79 rfl
    · skip
      exact hj68
noncomputable def bX8_fault_36 {d : Nat} (P : zP d) : zK d := (xald 2 (xgfI 17 0 (xiret P)))
set_option maxRecDepth 100000 in
set_option maxHeartbeats 4000000 in
theorem sbX8_fault_36 {d : Nat} [zGh] (P : zP d) : zSim X_X8_fault 1 P 36 (bX8_fault_36 P) := by
  unfold bX8_fault_36
  refine sm_aload_n (pc := 36) (n := 2) dX8_fault_36 rfl ?_
  refine gf_X8_113 (pc := 37) rfl dX8_fault_37 ?_
  exact sm_ireturn (pc := 40) dX8_fault_40 rfl
noncomputable def bX8_fault_41 {d : Nat} (P : zP d) : zK d := (xald 2 (xgfI 17 1 (xiret P)))
set_option maxRecDepth 100000 in
set_option maxHeartbeats 4000000 in
theorem sbX8_fault_41 {d : Nat} [zGh] (P : zP d) : zSim X_X8_fault 1 P 41 (bX8_fault_41 P) := by
  unfold bX8_fault_41
  refine sm_aload_n (pc := 41) (n := 2) dX8_fault_41 rfl ?_
  refine gf_X8_116 (pc := 42) rfl dX8_fault_42 ?_
  exact sm_ireturn (pc := 45) dX8_fault_45 rfl
noncomputable def bX8_fault_46 {d : Nat} (P : zP d) : zK d := (xald 2 (xgfI 17 3 (xiret P)))
set_option maxRecDepth 100000 in
set_option maxHeartbeats 4000000 in
theorem sbX8_fault_46 {d : Nat} [zGh] (P : zP d) : zSim X_X8_fault 1 P 46 (bX8_fault_46 P) := by
  unfold bX8_fault_46
  refine sm_aload_n (pc := 46) (n := 2) dX8_fault_46 rfl ?_
  refine gf_X8_119 (pc := 47) rfl dX8_fault_47 ?_
  exact sm_ireturn (pc := 50) dX8_fault_50 rfl
noncomputable def b_X8_fault {d : Nat} (P : zP d) : zK d := (xald 0 (xgfR 24 5 (xgfR 18 0 (xast 2 (xild 1 (xtsw [(bX8_fault_36 P), (bX8_fault_41 P), (bX8_fault_46 P)] (bX8_fault_51 P)))))))
set_option maxRecDepth 100000 in
set_option maxHeartbeats 4000000 in
theorem s_X8_fault {d : Nat} [zGh] (P : zP d) : zSim X_X8_fault 1 P 0 (b_X8_fault P) := by
  unfold b_X8_fault
  refine sm_aload_n (pc := 0) (n := 0) dX8_fault_0 rfl ?_
  refine gf_X8_60 (pc := 1) rfl dX8_fault_1 ?_
  refine gf_X8_91 (pc := 4) rfl dX8_fault_4 ?_
  refine sm_astore_n (pc := 7) (n := 2) dX8_fault_7 rfl ?_
  refine sm_iload_n (pc := 8) (n := 1) dX8_fault_8 rfl ?_
  exact sm_tsw3 (pc := 9) (n := 2) (tdf := 51) [36, 41, 46] rfl (by decide) dX8_fault_9 rfl (by decide +kernel) (by decide) (sbX8_fault_51 P) ⟨sbX8_fault_36 P, sbX8_fault_41 P, sbX8_fault_46 P, trivial⟩
noncomputable def f_X8_fault {d : Nat} : List zV → zH d → zP d → Bool := zfn 3 b_X8_fault
theorem m_X8_fault {d : Nat} : zMet (d := d) X_X8_fault yX8_fault 1 f_X8_fault := zmet_mk (X := X_X8_fault) (by decide) rfl rfl s_X8_fault

abbrev X_X8_partition : zM := (RX8, cX8_partition, 4, (some .int), "partition")
noncomputable def bX8_partition_13 {d : Nat} (P : zP d) : zK d := (xpI 4294967295 (xiret P))
set_option maxRecDepth 100000 in
set_option maxHeartbeats 4000000 in
theorem sbX8_partition_13 {d : Nat} [zGh] (P : zP d) : zSim X_X8_partition 2 P 13 (bX8_partition_13 P) := by
  unfold bX8_partition_13
  refine sm_iconst (pc := 13) dX8_partition_13 zc_i_m1 ?_
  exact sm_ireturn (pc := 14) dX8_partition_14 rfl
noncomputable def bX8_partition_45 {d : Nat} (P : zP d) : zK d := (xiret P)
set_option maxRecDepth 100000 in
set_option maxHeartbeats 4000000 in
theorem sbX8_partition_45 {d : Nat} [zGh] (P : zP d) : zSim X_X8_partition 2 P 45 (bX8_partition_45 P) := by
  unfold bX8_partition_45
  exact sm_ireturn (pc := 45) dX8_partition_45 rfl
noncomputable def b_X8_partition {d : Nat} (P : zP d) : zK d := (xald 0 (xild 1 (xcV 24 2 0 0 f_X8_isPartition (xjoin (bX8_partition_13 P) (fun j13 => (xif0 t0eq j13 (xild 2 (xpI 4294967295 (xcmp tge (xald 0 (xgfR 24 6 (xgfR 23 3 (xild 1 (xaal (xast 3 (xild 2 (xpI 4294967295 (xjoin (bX8_partition_45 P) (fun j45 => (xcmp Nat.beq (xald 3 (xgfI 20 1 j45)) (xald 3 (xgfR 20 2 (xild 2 (xcS 2 0 0 f_X8_partAt j45))))))))))))))) j13)))))))))
set_option maxRecDepth 100000 in
set_option maxHeartbeats 4000000 in
theorem s_X8_partition {d : Nat} [zGh] (P : zP d) : zSim X_X8_partition 2 P 0 (b_X8_partition P) := by
  unfold b_X8_partition
  refine sm_aload_n (pc := 0) (n := 0) dX8_partition_0 rfl ?_
  refine sm_iload_n (pc := 1) (n := 1) dX8_partition_1 rfl ?_
  refine sm_cV (pc := 2) (ci := 8) (n := 2) (mc := 0) (ms := 0) rfl m_X8_isPartition (cr_X8_126 (X := X_X8_partition) (fr := 2) (frc := 1) (pc := 2) (mc := 0) (ms := 0) rfl (by decide) dX8_partition_2) ?_
  refine sm_join (pc := 5) (pc' := 13) (sbX8_partition_13 P) (fun j13 hj13 => ?_)
  refine sm_if_eq (pc := 5) (tgt := 13) dX8_partition_5 (by decide) ?_ ?_
  · skip
    exact hj13
  · skip
    refine sm_iload_n (pc := 8) (n := 2) dX8_partition_8 rfl ?_
    refine sm_iconst (pc := 9) dX8_partition_9 zc_i_m1 ?_
    refine sm_icmp_ge (pc := 10) (tgt := 15) dX8_partition_10 (by decide) ?_ ?_
    · skip
      refine sm_aload_n (pc := 15) (n := 0) dX8_partition_15 rfl ?_
      refine gf_X8_40 (pc := 16) rfl dX8_partition_16 ?_
      refine gf_X8_129 (pc := 19) rfl dX8_partition_19 ?_
      refine sm_iload_n (pc := 22) (n := 1) dX8_partition_22 rfl ?_
      refine sm_aaload (pc := 23) dX8_partition_23 ?_
      refine sm_astore_n (pc := 24) (n := 3) dX8_partition_24 rfl ?_
      refine sm_iload_n (pc := 25) (n := 2) dX8_partition_25 rfl ?_
      refine sm_iconst (pc := 26) dX8_partition_26 zc_i_m1 ?_
      refine sm_join (pc := 27) (pc' := 45) (sbX8_partition_45 P) (fun j45 hj45 => ?_)
      refine sm_icmp_ne (pc := 27) (tgt := 37) dX8_partition_27 (by decide) ?_ ?_
      · skip
        refine sm_aload_n (pc := 37) (n := 3) dX8_partition_37 rfl ?_
        refine gf_X8_138 (pc := 38) rfl dX8_partition_38 ?_
        refine sm_iload_n (pc := 41) (n := 2) dX8_partition_41 rfl ?_
        refine sm_cS (pc := 42) (n := 2) (mc := 0) (ms := 0) m_X8_partAt (cr_X8_141 (X := X_X8_partition) (fr := 2) (frc := 1) (pc := 42) (mc := 0) (ms := 0) rfl (by decide) dX8_partition_42) ?_
        exact hj45
      · skip
        refine sm_aload_n (pc := 30) (n := 3) dX8_partition_30 rfl ?_
        refine gf_X8_133 (pc := 31) rfl dX8_partition_31 ?_
        refine sm_goto (pc := 34) (tgt := 45) dX8_partition_34 (by decide) ?_
        exact hj45
    · skip
      exact hj13
noncomputable def f_X8_partition {d : Nat} : List zV → zH d → zP d → Bool := zfn 4 b_X8_partition
theorem m_X8_partition {d : Nat} : zMet (d := d) X_X8_partition yX8_partition 2 f_X8_partition := zmet_mk (X := X_X8_partition) (by decide) rfl rfl s_X8_partition

abbrev X_X8_of : zM := (RX8, cX8_of, 3, (some .int), "of")
noncomputable def bX8_of_159 {d : Nat} (P : zP d) : zK d := (xpI 4294967295 (xiret P))
set_option maxRecDepth 100000 in
set_option maxHeartbeats 4000000 in
theorem sbX8_of_159 {d : Nat} [zGh] (P : zP d) : zSim X_X8_of 2 P 159 (bX8_of_159 P) := by
  unfold bX8_of_159
  refine sm_iconst (pc := 159) dX8_of_159 zc_i_m1 ?_
  exact sm_ireturn (pc := 160) dX8_of_160 rfl
noncomputable def bX8_of_56 {d : Nat} (P : zP d) : zK d := (xald 0 (xgfR 24 7 (xild 1 (xcV 21 2 0 0 f_X5_isRegular (xcS 1 0 0 f_X8_bit (xiret P))))))
set_option maxRecDepth 100000 in
set_option maxHeartbeats 4000000 in
theorem sbX8_of_56 {d : Nat} [zGh] (P : zP d) : zSim X_X8_of 2 P 56 (bX8_of_56 P) := by
  unfold bX8_of_56
  refine sm_aload_n (pc := 56) (n := 0) dX8_of_56 rfl ?_
  refine gf_X8_47 (pc := 57) rfl dX8_of_57 ?_
  refine sm_iload_n (pc := 60) (n := 1) dX8_of_60 rfl ?_
  refine sm_cV (pc := 61) (ci := 5) (n := 2) (mc := 0) (ms := 0) rfl m_X5_isRegular (cr_X8_145 (X := X_X8_of) (fr := 2) (frc := 1) (pc := 61) (mc := 0) (ms := 0) rfl (by decide) dX8_of_61) ?_
  refine sm_cS (pc := 64) (n := 1) (mc := 0) (ms := 0) m_X8_bit (cr_X8_148 (X := X_X8_of) (fr := 2) (frc := 1) (pc := 64) (mc := 0) (ms := 0) rfl (by decide) dX8_of_64) ?_
  exact sm_ireturn (pc := 67) dX8_of_67 rfl
noncomputable def bX8_of_68 {d : Nat} (P : zP d) : zK d := (xald 0 (xgfR 24 7 (xgfR 21 10 (xgfR 16 0 (xild 1 (xald1 0 (xiret P)))))))
set_option maxRecDepth 100000 in
set_option maxHeartbeats 4000000 in
theorem sbX8_of_68 {d : Nat} [zGh] (P : zP d) : zSim X_X8_of 2 P 68 (bX8_of_68 P) := by
  unfold bX8_of_68
  refine sm_aload_n (pc := 68) (n := 0) dX8_of_68 rfl ?_
  refine gf_X8_47 (pc := 69) rfl dX8_of_69 ?_
  refine gf_X8_152 (pc := 72) rfl dX8_of_72 ?_
  refine gf_X8_156 (pc := 75) rfl dX8_of_75 ?_
  refine sm_iload_n (pc := 78) (n := 1) dX8_of_78 rfl ?_
  refine sm_iaload (pc := 79) dX8_of_79 ?_
  exact sm_ireturn (pc := 80) dX8_of_80 rfl
noncomputable def bX8_of_81 {d : Nat} (P : zP d) : zK d := (xald 0 (xgfR 24 7 (xgfR 21 10 (xgfR 16 2 (xild 1 (xald1 0 (xiret P)))))))
set_option maxRecDepth 100000 in
set_option maxHeartbeats 4000000 in
theorem sbX8_of_81 {d : Nat} [zGh] (P : zP d) : zSim X_X8_of 2 P 81 (bX8_of_81 P) := by
  unfold bX8_of_81
  refine sm_aload_n (pc := 81) (n := 0) dX8_of_81 rfl ?_
  refine gf_X8_47 (pc := 82) rfl dX8_of_82 ?_
  refine gf_X8_152 (pc := 85) rfl dX8_of_85 ?_
  refine gf_X8_161 (pc := 88) rfl dX8_of_88 ?_
  refine sm_iload_n (pc := 91) (n := 1) dX8_of_91 rfl ?_
  refine sm_iaload (pc := 92) dX8_of_92 ?_
  exact sm_ireturn (pc := 93) dX8_of_93 rfl
noncomputable def bX8_of_94 {d : Nat} (P : zP d) : zK d := (xald 0 (xgfR 24 6 (xgfR 23 3 (xild 1 (xaal (xgfI 20 5 (xiret P)))))))
set_option maxRecDepth 100000 in
set_option maxHeartbeats 4000000 in
theorem sbX8_of_94 {d : Nat} [zGh] (P : zP d) : zSim X_X8_of 2 P 94 (bX8_of_94 P) := by
  unfold bX8_of_94
  refine sm_aload_n (pc := 94) (n := 0) dX8_of_94 rfl ?_
  refine gf_X8_40 (pc := 95) rfl dX8_of_95 ?_
  refine gf_X8_129 (pc := 98) rfl dX8_of_98 ?_
  refine sm_iload_n (pc := 101) (n := 1) dX8_of_101 rfl ?_
  refine sm_aaload (pc := 102) dX8_of_102 ?_
  refine gf_X8_164 (pc := 103) rfl dX8_of_103 ?_
  exact sm_ireturn (pc := 106) dX8_of_106 rfl
noncomputable def bX8_of_107 {d : Nat} (P : zP d) : zK d := (xald 0 (xgfR 24 7 (xgfR 21 5 (xild 1 (xald1 0 (xiret P))))))
set_option maxRecDepth 100000 in
set_option maxHeartbeats 4000000 in
theorem sbX8_of_107 {d : Nat} [zGh] (P : zP d) : zSim X_X8_of 2 P 107 (bX8_of_107 P) := by
  unfold bX8_of_107
  refine sm_aload_n (pc := 107) (n := 0) dX8_of_107 rfl ?_
  refine gf_X8_47 (pc := 108) rfl dX8_of_108 ?_
  refine gf_X8_167 (pc := 111) rfl dX8_of_111 ?_
  refine sm_iload_n (pc := 114) (n := 1) dX8_of_114 rfl ?_
  refine sm_iaload (pc := 115) dX8_of_115 ?_
  exact sm_ireturn (pc := 116) dX8_of_116 rfl
noncomputable def bX8_of_117 {d : Nat} (P : zP d) : zK d := (xald 0 (xgfR 24 6 (xgfR 23 4 (xild 1 (xald1 0 (xiret P))))))
set_option maxRecDepth 100000 in
set_option maxHeartbeats 4000000 in
theorem sbX8_of_117 {d : Nat} [zGh] (P : zP d) : zSim X_X8_of 2 P 117 (bX8_of_117 P) := by
  unfold bX8_of_117
  refine sm_aload_n (pc := 117) (n := 0) dX8_of_117 rfl ?_
  refine gf_X8_40 (pc := 118) rfl dX8_of_118 ?_
  refine gf_X8_170 (pc := 121) rfl dX8_of_121 ?_
  refine sm_iload_n (pc := 124) (n := 1) dX8_of_124 rfl ?_
  refine sm_iaload (pc := 125) dX8_of_125 ?_
  exact sm_ireturn (pc := 126) dX8_of_126 rfl
noncomputable def bX8_of_145 {d : Nat} (P : zP d) : zK d := (xcS 1 0 0 f_X8_bit (xiret P))
set_option maxRecDepth 100000 in
set_option maxHeartbeats 4000000 in
theorem sbX8_of_145 {d : Nat} [zGh] (P : zP d) : zSim X_X8_of 2 P 145 (bX8_of_145 P) := by
  unfold bX8_of_145
  refine sm_cS (pc := 145) (n := 1) (mc := 0) (ms := 0) m_X8_bit (cr_X8_148 (X := X_X8_of) (fr := 2) (frc := 1) (pc := 145) (mc := 0) (ms := 0) rfl (by decide) dX8_of_145) ?_
  exact sm_ireturn (pc := 148) dX8_of_148 rfl
noncomputable def bX8_of_127 {d : Nat} (P : zP d) : zK d := (xald 0 (xgfR 24 6 (xgfR 23 4 (xild 1 (xald1 0 (xild 1 (xjoin (bX8_of_145 P) (fun j145 => (xcmp Nat.beq (xpI 1 j145) (xpI 0 j145))))))))))
set_option maxRecDepth 100000 in
set_option maxHeartbeats 4000000 in
theorem sbX8_of_127 {d : Nat} [zGh] (P : zP d) : zSim X_X8_of 2 P 127 (bX8_of_127 P) := by
  unfold bX8_of_127
  refine sm_aload_n (pc := 127) (n := 0) dX8_of_127 rfl ?_
  refine gf_X8_40 (pc := 128) rfl dX8_of_128 ?_
  refine gf_X8_170 (pc := 131) rfl dX8_of_131 ?_
  refine sm_iload_n (pc := 134) (n := 1) dX8_of_134 rfl ?_
  refine sm_iaload (pc := 135) dX8_of_135 ?_
  refine sm_iload_n (pc := 136) (n := 1) dX8_of_136 rfl ?_
  refine sm_join (pc := 137) (pc' := 145) (sbX8_of_145 P) (fun j145 hj145 => ?_)
  refine sm_icmp_ne (pc := 137) (tgt := 144) dX8_of_137 (by decide) ?_ ?_
  · skip
    refine sm_iconst (pc := 144) dX8_of_144 zc_i_0 ?_
    exact hj145
  · skip
    refine sm_iconst (pc := 140) dX8_of_140 zc_i_1 ?_
    refine sm_goto (pc := 141) (tgt := 145) dX8_of_141 (by decide) ?_
    exact hj145
noncomputable def bX8_of_149 {d : Nat} (P : zP d) : zK d := (xald 0 (xgfR 24 7 (xgfR 21 2 (xild 1 (xald1 0 (xiret P))))))
set_option maxRecDepth 100000 in
set_option maxHeartbeats 4000000 in
theorem sbX8_of_149 {d : Nat} [zGh] (P : zP d) : zSim X_X8_of 2 P 149 (bX8_of_149 P) := by
  unfold bX8_of_149
  refine sm_aload_n (pc := 149) (n := 0) dX8_of_149 rfl ?_
  refine gf_X8_47 (pc := 150) rfl dX8_of_150 ?_
  refine gf_X8_173 (pc := 153) rfl dX8_of_153 ?_
  refine sm_iload_n (pc := 156) (n := 1) dX8_of_156 rfl ?_
  refine sm_iaload (pc := 157) dX8_of_157 ?_
  exact sm_ireturn (pc := 158) dX8_of_158 rfl
noncomputable def b_X8_of {d : Nat} (P : zP d) : zK d := (xald 0 (xild 1 (xcV 24 2 0 0 f_X8_isPartition (xif0 t0eq (xpI 4294967295 (xiret P)) (xild 2 (xtsw [(bX8_of_56 P), (bX8_of_68 P), (bX8_of_81 P), (bX8_of_94 P), (bX8_of_107 P), (bX8_of_117 P), (bX8_of_127 P), (bX8_of_149 P)] (bX8_of_159 P)))))))
set_option maxRecDepth 100000 in
set_option maxHeartbeats 4000000 in
theorem s_X8_of {d : Nat} [zGh] (P : zP d) : zSim X_X8_of 2 P 0 (b_X8_of P) := by
  unfold b_X8_of
  refine sm_aload_n (pc := 0) (n := 0) dX8_of_0 rfl ?_
  refine sm_iload_n (pc := 1) (n := 1) dX8_of_1 rfl ?_
  refine sm_cV (pc := 2) (ci := 8) (n := 2) (mc := 0) (ms := 0) rfl m_X8_isPartition (cr_X8_126 (X := X_X8_of) (fr := 2) (frc := 1) (pc := 2) (mc := 0) (ms := 0) rfl (by decide) dX8_of_2) ?_
  refine sm_if_ne (pc := 5) (tgt := 10) dX8_of_5 (by decide) ?_ ?_
  · skip
    refine sm_iload_n (pc := 10) (n := 2) dX8_of_10 rfl ?_
    exact sm_tsw3 (pc := 11) (n := 7) (tdf := 159) [56, 68, 81, 94, 107, 117, 127, 149] rfl (by decide) dX8_of_11 rfl (by decide +kernel) (by decide) (sbX8_of_159 P) ⟨sbX8_of_56 P, sbX8_of_68 P, sbX8_of_81 P, sbX8_of_94 P, sbX8_of_107 P, sbX8_of_117 P, sbX8_of_127 P, sbX8_of_149 P, trivial⟩
  · skip
    refine sm_iconst (pc := 8) dX8_of_8 zc_i_m1 ?_
    exact sm_ireturn (pc := 9) dX8_of_9 rfl
noncomputable def f_X8_of {d : Nat} : List zV → zH d → zP d → Bool := zfn 3 b_X8_of
theorem m_X8_of {d : Nat} : zMet (d := d) X_X8_of yX8_of 2 f_X8_of := zmet_mk (X := X_X8_of) (by decide) rfl rfl s_X8_of

abbrev X_X8_core : zM := (RX8, cX8_core, 4, (some .int), "core")
noncomputable def bX8_core_13 {d : Nat} (P : zP d) : zK d := (xpI 4294967295 (xiret P))
set_option maxRecDepth 100000 in
set_option maxHeartbeats 4000000 in
theorem sbX8_core_13 {d : Nat} [zGh] (P : zP d) : zSim X_X8_core 2 P 13 (bX8_core_13 P) := by
  unfold bX8_core_13
  refine sm_iconst (pc := 13) dX8_core_13 zc_i_m1 ?_
  exact sm_ireturn (pc := 14) dX8_core_14 rfl
noncomputable def bX8_core_63 {d : Nat} (P : zP d) : zK d := (xiret P)
set_option maxRecDepth 100000 in
set_option maxHeartbeats 4000000 in
theorem sbX8_core_63 {d : Nat} [zGh] (P : zP d) : zSim X_X8_core 2 P 63 (bX8_core_63 P) := by
  unfold bX8_core_63
  exact sm_ireturn (pc := 63) dX8_core_63 rfl
noncomputable def cX8_core_48 {d : Nat} (P : zP d) (j63 : zK d) : zK d := (xbin zmul (xbin zsub j63))
set_option maxRecDepth 100000 in
set_option maxHeartbeats 4000000 in
theorem scX8_core_48 {d : Nat} [zGh] (P : zP d) (j63 : zK d) (hj63 : zSim X_X8_core 2 P 63 j63) : zSim X_X8_core 2 P 48 (cX8_core_48 P j63) := by
  unfold cX8_core_48
  refine sm_imul (pc := 48) dX8_core_48 ?_
  refine sm_isub (pc := 49) dX8_core_49 ?_
  refine sm_goto (pc := 50) (tgt := 63) dX8_core_50 (by decide) ?_
  exact hj63
noncomputable def b_X8_core {d : Nat} (P : zP d) : zK d := (xald 0 (xild 1 (xcV 24 2 0 0 f_X8_isPartition (xjoin (bX8_core_13 P) (fun j13 => (xif0 t0eq j13 (xild 2 (xpI 4294967295 (xcmp tge (xald 0 (xgfR 24 7 (xgfR 21 10 (xast 3 (xild 2 (xpI 4294967295 (xjoin (bX8_core_63 P) (fun j63 => (xcmp Nat.beq (xald 0 (xgfR 24 6 (xgfI 23 0 (xald 0 (xgfR 24 7 (xgfI 21 1 (xald 3 (xgfR 16 0 (xild 1 (xald1 0 (cX8_core_48 P j63))))))))))) (xald 3 (xgfR 16 1 (xild 1 (xaal (xild 2 (xcS 2 0 0 f_X8_partAt j63))))))))))))))) j13)))))))))
set_option maxRecDepth 100000 in
set_option maxHeartbeats 4000000 in
theorem s_X8_core {d : Nat} [zGh] (P : zP d) : zSim X_X8_core 2 P 0 (b_X8_core P) := by
  unfold b_X8_core
  refine sm_aload_n (pc := 0) (n := 0) dX8_core_0 rfl ?_
  refine sm_iload_n (pc := 1) (n := 1) dX8_core_1 rfl ?_
  refine sm_cV (pc := 2) (ci := 8) (n := 2) (mc := 0) (ms := 0) rfl m_X8_isPartition (cr_X8_126 (X := X_X8_core) (fr := 2) (frc := 1) (pc := 2) (mc := 0) (ms := 0) rfl (by decide) dX8_core_2) ?_
  refine sm_join (pc := 5) (pc' := 13) (sbX8_core_13 P) (fun j13 hj13 => ?_)
  refine sm_if_eq (pc := 5) (tgt := 13) dX8_core_5 (by decide) ?_ ?_
  · skip
    exact hj13
  · skip
    refine sm_iload_n (pc := 8) (n := 2) dX8_core_8 rfl ?_
    refine sm_iconst (pc := 9) dX8_core_9 zc_i_m1 ?_
    refine sm_icmp_ge (pc := 10) (tgt := 15) dX8_core_10 (by decide) ?_ ?_
    · skip
      refine sm_aload_n (pc := 15) (n := 0) dX8_core_15 rfl ?_
      refine gf_X8_47 (pc := 16) rfl dX8_core_16 ?_
      refine gf_X8_152 (pc := 19) rfl dX8_core_19 ?_
      refine sm_astore_n (pc := 22) (n := 3) dX8_core_22 rfl ?_
      refine sm_iload_n (pc := 23) (n := 2) dX8_core_23 rfl ?_
      refine sm_iconst (pc := 24) dX8_core_24 zc_i_m1 ?_
      refine sm_join (pc := 25) (pc' := 63) (sbX8_core_63 P) (fun j63 hj63 => ?_)
      refine sm_icmp_ne (pc := 25) (tgt := 53) dX8_core_25 (by decide) ?_ ?_
      · skip
        refine sm_aload_n (pc := 53) (n := 3) dX8_core_53 rfl ?_
        refine gf_X8_182 (pc := 54) rfl dX8_core_54 ?_
        refine sm_iload_n (pc := 57) (n := 1) dX8_core_57 rfl ?_
        refine sm_aaload (pc := 58) dX8_core_58 ?_
        refine sm_iload_n (pc := 59) (n := 2) dX8_core_59 rfl ?_
        refine sm_cS (pc := 60) (n := 2) (mc := 0) (ms := 0) m_X8_partAt (cr_X8_141 (X := X_X8_core) (fr := 2) (frc := 1) (pc := 60) (mc := 0) (ms := 0) rfl (by decide) dX8_core_60) ?_
        exact hj63
      · skip
        refine sm_aload_n (pc := 28) (n := 0) dX8_core_28 rfl ?_
        refine gf_X8_40 (pc := 29) rfl dX8_core_29 ?_
        refine gf_X8_176 (pc := 32) rfl dX8_core_32 ?_
        refine sm_aload_n (pc := 35) (n := 0) dX8_core_35 rfl ?_
        refine gf_X8_47 (pc := 36) rfl dX8_core_36 ?_
        refine gf_X8_179 (pc := 39) rfl dX8_core_39 ?_
        refine sm_aload_n (pc := 42) (n := 3) dX8_core_42 rfl ?_
        refine gf_X8_156 (pc := 43) rfl dX8_core_43 ?_
        refine sm_iload_n (pc := 46) (n := 1) dX8_core_46 rfl ?_
        refine sm_iaload (pc := 47) dX8_core_47 ?_
        exact scX8_core_48 P j63 hj63
    · skip
      exact hj13
noncomputable def f_X8_core {d : Nat} : List zV → zH d → zP d → Bool := zfn 4 b_X8_core
theorem m_X8_core {d : Nat} : zMet (d := d) X_X8_core yX8_core 2 f_X8_core := zmet_mk (X := X_X8_core) (by decide) rfl rfl s_X8_core

abbrev X_X8_hook : zM := (RX8, cX8_hook, 4, (some .int), "hook")
noncomputable def bX8_hook_25 {d : Nat} (P : zP d) : zK d := (xpI 4294967295 (xiret P))
set_option maxRecDepth 100000 in
set_option maxHeartbeats 4000000 in
theorem sbX8_hook_25 {d : Nat} [zGh] (P : zP d) : zSim X_X8_hook 2 P 25 (bX8_hook_25 P) := by
  unfold bX8_hook_25
  refine sm_iconst (pc := 25) dX8_hook_25 zc_i_m1 ?_
  exact sm_ireturn (pc := 26) dX8_hook_26 rfl
noncomputable def b_X8_hook {d : Nat} (P : zP d) : zK d := (xald 0 (xild 1 (xcV 24 2 0 0 f_X8_isPartition (xjoin (bX8_hook_25 P) (fun j25 => (xif0 t0eq j25 (xald 0 (xgfR 24 6 (xgfR 23 3 (xild 1 (xaal (xild 2 (xild 3 (xcV 20 3 0 0 f_X4_hasCell (xif0 t0eq j25 (xald 0 (xgfR 24 6 (xgfR 23 3 (xild 1 (xaal (xild 2 (xild 3 (xcV 20 3 0 0 f_X4_hookAt (xiret P))))))))))))))))))))))))
set_option maxRecDepth 100000 in
set_option maxHeartbeats 4000000 in
theorem s_X8_hook {d : Nat} [zGh] (P : zP d) : zSim X_X8_hook 2 P 0 (b_X8_hook P) := by
  unfold b_X8_hook
  refine sm_aload_n (pc := 0) (n := 0) dX8_hook_0 rfl ?_
  refine sm_iload_n (pc := 1) (n := 1) dX8_hook_1 rfl ?_
  refine sm_cV (pc := 2) (ci := 8) (n := 2) (mc := 0) (ms := 0) rfl m_X8_isPartition (cr_X8_126 (X := X_X8_hook) (fr := 2) (frc := 1) (pc := 2) (mc := 0) (ms := 0) rfl (by decide) dX8_hook_2) ?_
  refine sm_join (pc := 5) (pc' := 25) (sbX8_hook_25 P) (fun j25 hj25 => ?_)
  refine sm_if_eq (pc := 5) (tgt := 25) dX8_hook_5 (by decide) ?_ ?_
  · skip
    exact hj25
  · skip
    refine sm_aload_n (pc := 8) (n := 0) dX8_hook_8 rfl ?_
    refine gf_X8_40 (pc := 9) rfl dX8_hook_9 ?_
    refine gf_X8_129 (pc := 12) rfl dX8_hook_12 ?_
    refine sm_iload_n (pc := 15) (n := 1) dX8_hook_15 rfl ?_
    refine sm_aaload (pc := 16) dX8_hook_16 ?_
    refine sm_iload_n (pc := 17) (n := 2) dX8_hook_17 rfl ?_
    refine sm_iload_n (pc := 18) (n := 3) dX8_hook_18 rfl ?_
    refine sm_cV (pc := 19) (ci := 4) (n := 3) (mc := 0) (ms := 0) rfl m_X4_hasCell (cr_X8_186 (X := X_X8_hook) (fr := 2) (frc := 1) (pc := 19) (mc := 0) (ms := 0) rfl (by decide) dX8_hook_19) ?_
    refine sm_if_ne (pc := 22) (tgt := 27) dX8_hook_22 (by decide) ?_ ?_
    · skip
      refine sm_aload_n (pc := 27) (n := 0) dX8_hook_27 rfl ?_
      refine gf_X8_40 (pc := 28) rfl dX8_hook_28 ?_
      refine gf_X8_129 (pc := 31) rfl dX8_hook_31 ?_
      refine sm_iload_n (pc := 34) (n := 1) dX8_hook_34 rfl ?_
      refine sm_aaload (pc := 35) dX8_hook_35 ?_
      refine sm_iload_n (pc := 36) (n := 2) dX8_hook_36 rfl ?_
      refine sm_iload_n (pc := 37) (n := 3) dX8_hook_37 rfl ?_
      refine sm_cV (pc := 38) (ci := 4) (n := 3) (mc := 0) (ms := 0) rfl m_X4_hookAt (cr_X8_190 (X := X_X8_hook) (fr := 2) (frc := 1) (pc := 38) (mc := 0) (ms := 0) rfl (by decide) dX8_hook_38) ?_
      exact sm_ireturn (pc := 41) dX8_hook_41 rfl
    · skip
      exact hj25
noncomputable def f_X8_hook {d : Nat} : List zV → zH d → zP d → Bool := zfn 4 b_X8_hook
theorem m_X8_hook {d : Nat} : zMet (d := d) X_X8_hook yX8_hook 2 f_X8_hook := zmet_mk (X := X_X8_hook) (by decide) rfl rfl s_X8_hook

abbrev X_X8_classOf : zM := (RX8, cX8_classOf, 3, (some .int), "classOf")
noncomputable def bX8_classOf_101 {d : Nat} (P : zP d) : zK d := (xpI 4294967294 (xiret P))
set_option maxRecDepth 100000 in
set_option maxHeartbeats 4000000 in
theorem sbX8_classOf_101 {d : Nat} [zGh] (P : zP d) : zSim X_X8_classOf 2 P 101 (bX8_classOf_101 P) := by
  unfold bX8_classOf_101
  refine sm_bipush (pc := 101) dX8_classOf_101 zc_b_m2 ?_
  exact sm_ireturn (pc := 103) dX8_classOf_103 rfl
noncomputable def bX8_classOf_48 {d : Nat} (P : zP d) : zK d := (xald 0 (xgfR 24 6 (xgfR 23 5 (xild 1 (xald1 0 (xiret P))))))
set_option maxRecDepth 100000 in
set_option maxHeartbeats 4000000 in
theorem sbX8_classOf_48 {d : Nat} [zGh] (P : zP d) : zSim X_X8_classOf 2 P 48 (bX8_classOf_48 P) := by
  unfold bX8_classOf_48
  refine sm_aload_n (pc := 48) (n := 0) dX8_classOf_48 rfl ?_
  refine gf_X8_40 (pc := 49) rfl dX8_classOf_49 ?_
  refine gf_X8_193 (pc := 52) rfl dX8_classOf_52 ?_
  refine sm_iload_n (pc := 55) (n := 1) dX8_classOf_55 rfl ?_
  refine sm_iaload (pc := 56) dX8_classOf_56 ?_
  exact sm_ireturn (pc := 57) dX8_classOf_57 rfl
noncomputable def bX8_classOf_58 {d : Nat} (P : zP d) : zK d := (xald 0 (xgfR 24 6 (xgfR 23 6 (xild 1 (xald1 0 (xiret P))))))
set_option maxRecDepth 100000 in
set_option maxHeartbeats 4000000 in
theorem sbX8_classOf_58 {d : Nat} [zGh] (P : zP d) : zSim X_X8_classOf 2 P 58 (bX8_classOf_58 P) := by
  unfold bX8_classOf_58
  refine sm_aload_n (pc := 58) (n := 0) dX8_classOf_58 rfl ?_
  refine gf_X8_40 (pc := 59) rfl dX8_classOf_59 ?_
  refine gf_X8_196 (pc := 62) rfl dX8_classOf_62 ?_
  refine sm_iload_n (pc := 65) (n := 1) dX8_classOf_65 rfl ?_
  refine sm_iaload (pc := 66) dX8_classOf_66 ?_
  exact sm_ireturn (pc := 67) dX8_classOf_67 rfl
noncomputable def bX8_classOf_68 {d : Nat} (P : zP d) : zK d := (xald 0 (xgfR 24 7 (xgfR 21 4 (xild 1 (xald1 1 (xcS 1 0 0 f_X8_bit (xiret P)))))))
set_option maxRecDepth 100000 in
set_option maxHeartbeats 4000000 in
theorem sbX8_classOf_68 {d : Nat} [zGh] (P : zP d) : zSim X_X8_classOf 2 P 68 (bX8_classOf_68 P) := by
  unfold bX8_classOf_68
  refine sm_aload_n (pc := 68) (n := 0) dX8_classOf_68 rfl ?_
  refine gf_X8_47 (pc := 69) rfl dX8_classOf_69 ?_
  refine gf_X8_199 (pc := 72) rfl dX8_classOf_72 ?_
  refine sm_iload_n (pc := 75) (n := 1) dX8_classOf_75 rfl ?_
  refine sm_baload (pc := 76) dX8_classOf_76 ?_
  refine sm_cS (pc := 77) (n := 1) (mc := 0) (ms := 0) m_X8_bit (cr_X8_148 (X := X_X8_classOf) (fr := 2) (frc := 1) (pc := 77) (mc := 0) (ms := 0) rfl (by decide) dX8_classOf_77) ?_
  exact sm_ireturn (pc := 80) dX8_classOf_80 rfl
noncomputable def bX8_classOf_81 {d : Nat} (P : zP d) : zK d := (xald 0 (xgfR 24 6 (xgfR 23 7 (xild 1 (xald1 0 (xiret P))))))
set_option maxRecDepth 100000 in
set_option maxHeartbeats 4000000 in
theorem sbX8_classOf_81 {d : Nat} [zGh] (P : zP d) : zSim X_X8_classOf 2 P 81 (bX8_classOf_81 P) := by
  unfold bX8_classOf_81
  refine sm_aload_n (pc := 81) (n := 0) dX8_classOf_81 rfl ?_
  refine gf_X8_40 (pc := 82) rfl dX8_classOf_82 ?_
  refine gf_X8_203 (pc := 85) rfl dX8_classOf_85 ?_
  refine sm_iload_n (pc := 88) (n := 1) dX8_classOf_88 rfl ?_
  refine sm_iaload (pc := 89) dX8_classOf_89 ?_
  exact sm_ireturn (pc := 90) dX8_classOf_90 rfl
noncomputable def bX8_classOf_91 {d : Nat} (P : zP d) : zK d := (xald 0 (xgfR 24 6 (xgfR 23 8 (xild 1 (xald1 0 (xiret P))))))
set_option maxRecDepth 100000 in
set_option maxHeartbeats 4000000 in
theorem sbX8_classOf_91 {d : Nat} [zGh] (P : zP d) : zSim X_X8_classOf 2 P 91 (bX8_classOf_91 P) := by
  unfold bX8_classOf_91
  refine sm_aload_n (pc := 91) (n := 0) dX8_classOf_91 rfl ?_
  refine gf_X8_40 (pc := 92) rfl dX8_classOf_92 ?_
  refine gf_X8_206 (pc := 95) rfl dX8_classOf_95 ?_
  refine sm_iload_n (pc := 98) (n := 1) dX8_classOf_98 rfl ?_
  refine sm_iaload (pc := 99) dX8_classOf_99 ?_
  exact sm_ireturn (pc := 100) dX8_classOf_100 rfl
noncomputable def b_X8_classOf {d : Nat} (P : zP d) : zK d := (xald 0 (xild 1 (xcV 24 2 0 0 f_X8_isPartition (xif0 t0eq (xpI 4294967294 (xiret P)) (xild 2 (xtsw [(bX8_classOf_48 P), (bX8_classOf_58 P), (bX8_classOf_68 P), (bX8_classOf_81 P), (bX8_classOf_91 P)] (bX8_classOf_101 P)))))))
set_option maxRecDepth 100000 in
set_option maxHeartbeats 4000000 in
theorem s_X8_classOf {d : Nat} [zGh] (P : zP d) : zSim X_X8_classOf 2 P 0 (b_X8_classOf P) := by
  unfold b_X8_classOf
  refine sm_aload_n (pc := 0) (n := 0) dX8_classOf_0 rfl ?_
  refine sm_iload_n (pc := 1) (n := 1) dX8_classOf_1 rfl ?_
  refine sm_cV (pc := 2) (ci := 8) (n := 2) (mc := 0) (ms := 0) rfl m_X8_isPartition (cr_X8_126 (X := X_X8_classOf) (fr := 2) (frc := 1) (pc := 2) (mc := 0) (ms := 0) rfl (by decide) dX8_classOf_2) ?_
  refine sm_if_ne (pc := 5) (tgt := 11) dX8_classOf_5 (by decide) ?_ ?_
  · skip
    refine sm_iload_n (pc := 11) (n := 2) dX8_classOf_11 rfl ?_
    exact sm_tsw3 (pc := 12) (n := 4) (tdf := 101) [48, 58, 68, 81, 91] rfl (by decide) dX8_classOf_12 rfl (by decide +kernel) (by decide) (sbX8_classOf_101 P) ⟨sbX8_classOf_48 P, sbX8_classOf_58 P, sbX8_classOf_68 P, sbX8_classOf_81 P, sbX8_classOf_91 P, trivial⟩
  · skip
    refine sm_bipush (pc := 8) dX8_classOf_8 zc_b_m2 ?_
    exact sm_ireturn (pc := 10) dX8_classOf_10 rfl
noncomputable def f_X8_classOf {d : Nat} : List zV → zH d → zP d → Bool := zfn 3 b_X8_classOf
theorem m_X8_classOf {d : Nat} : zMet (d := d) X_X8_classOf yX8_classOf 2 f_X8_classOf := zmet_mk (X := X_X8_classOf) (by decide) rfl rfl s_X8_classOf

abbrev X_X8_character : zM := (RX8, cX8_character, 3, (some .int), "character")
noncomputable def bX8_character_33 {d : Nat} (P : zP d) : zK d := (xiret P)
set_option maxRecDepth 100000 in
set_option maxHeartbeats 4000000 in
theorem sbX8_character_33 {d : Nat} [zGh] (P : zP d) : zSim X_X8_character 2 P 33 (bX8_character_33 P) := by
  unfold bX8_character_33
  exact sm_ireturn (pc := 33) dX8_character_33 rfl
noncomputable def bX8_character_30 {d : Nat} (P : zP d) (j33 : zK d) : zK d := (xpI 4294966295 j33)
set_option maxRecDepth 100000 in
set_option maxHeartbeats 4000000 in
theorem sbX8_character_30 {d : Nat} [zGh] (P : zP d) (j33 : zK d) (hj33 : zSim X_X8_character 2 P 33 j33) : zSim X_X8_character 2 P 30 (bX8_character_30 P j33) := by
  unfold bX8_character_30
  refine sm_sipush (pc := 30) dX8_character_30 zc_s_m1001 ?_
  exact hj33
noncomputable def b_X8_character {d : Nat} (P : zP d) : zK d := (xald 0 (xild 1 (xcV 24 2 0 0 f_X8_isPartition (xjoin (bX8_character_33 P) (fun j33 => (xjoin (bX8_character_30 P j33) (fun j30 => (xif0 t0eq j30 (xald 0 (xild 2 (xcV 24 2 0 0 f_X8_isPartition (xif0 t0eq j30 (xald 0 (xgfR 24 6 (xgfR 23 12 (xild 1 (xaal (xild 2 (xald1 0 j33)))))))))))))))))))
set_option maxRecDepth 100000 in
set_option maxHeartbeats 4000000 in
theorem s_X8_character {d : Nat} [zGh] (P : zP d) : zSim X_X8_character 2 P 0 (b_X8_character P) := by
  unfold b_X8_character
  refine sm_aload_n (pc := 0) (n := 0) dX8_character_0 rfl ?_
  refine sm_iload_n (pc := 1) (n := 1) dX8_character_1 rfl ?_
  refine sm_cV (pc := 2) (ci := 8) (n := 2) (mc := 0) (ms := 0) rfl m_X8_isPartition (cr_X8_126 (X := X_X8_character) (fr := 2) (frc := 1) (pc := 2) (mc := 0) (ms := 0) rfl (by decide) dX8_character_2) ?_
  refine sm_join (pc := 5) (pc' := 33) (sbX8_character_33 P) (fun j33 hj33 => ?_)
  refine sm_join (pc := 5) (pc' := 30) (sbX8_character_30 P j33 hj33) (fun j30 hj30 => ?_)
  refine sm_if_eq (pc := 5) (tgt := 30) dX8_character_5 (by decide) ?_ ?_
  · skip
    exact hj30
  · skip
    refine sm_aload_n (pc := 8) (n := 0) dX8_character_8 rfl ?_
    refine sm_iload_n (pc := 9) (n := 2) dX8_character_9 rfl ?_
    refine sm_cV (pc := 10) (ci := 8) (n := 2) (mc := 0) (ms := 0) rfl m_X8_isPartition (cr_X8_126 (X := X_X8_character) (fr := 2) (frc := 1) (pc := 10) (mc := 0) (ms := 0) rfl (by decide) dX8_character_10) ?_
    refine sm_if_eq (pc := 13) (tgt := 30) dX8_character_13 (by decide) ?_ ?_
    · skip
      exact hj30
    · skip
      refine sm_aload_n (pc := 16) (n := 0) dX8_character_16 rfl ?_
      refine gf_X8_40 (pc := 17) rfl dX8_character_17 ?_
      refine gf_X8_209 (pc := 20) rfl dX8_character_20 ?_
      refine sm_iload_n (pc := 23) (n := 1) dX8_character_23 rfl ?_
      refine sm_aaload (pc := 24) dX8_character_24 ?_
      refine sm_iload_n (pc := 25) (n := 2) dX8_character_25 rfl ?_
      refine sm_iaload (pc := 26) dX8_character_26 ?_
      refine sm_goto (pc := 27) (tgt := 33) dX8_character_27 (by decide) ?_
      exact hj33
noncomputable def f_X8_character {d : Nat} : List zV → zH d → zP d → Bool := zfn 3 b_X8_character
theorem m_X8_character {d : Nat} : zMet (d := d) X_X8_character yX8_character 2 f_X8_character := zmet_mk (X := X_X8_character) (by decide) rfl rfl s_X8_character

abbrev X_X8_modular : zM := (RX8, cX8_modular, 3, (some .int), "modular")
noncomputable def bX8_modular_28 {d : Nat} (P : zP d) : zK d := (xpI 4294966295 (xiret P))
set_option maxRecDepth 100000 in
set_option maxHeartbeats 4000000 in
theorem sbX8_modular_28 {d : Nat} [zGh] (P : zP d) : zSim X_X8_modular 3 P 28 (bX8_modular_28 P) := by
  unfold bX8_modular_28
  refine sm_sipush (pc := 28) dX8_modular_28 zc_s_m1001 ?_
  exact sm_ireturn (pc := 31) dX8_modular_31 rfl
noncomputable def b_X8_modular {d : Nat} (P : zP d) : zK d := (xald 0 (xild 1 (xcV 24 2 0 0 f_X8_isRegularPartition (xjoin (bX8_modular_28 P) (fun j28 => (xif0 t0eq j28 (xald 0 (xild 2 (xcV 24 2 0 0 f_X8_isPartition (xif0 t0eq j28 (xald 0 (xgfR 24 7 (xgfR 21 4 (xild 2 (xald1 1 (xif0 t0eq j28 (xald 0 (xgfR 24 7 (xgfR 21 6 (xild 1 (xaal (xild 2 (xald1 0 (xiret P))))))))))))))))))))))))
set_option maxRecDepth 100000 in
set_option maxHeartbeats 4000000 in
theorem s_X8_modular {d : Nat} [zGh] (P : zP d) : zSim X_X8_modular 3 P 0 (b_X8_modular P) := by
  unfold b_X8_modular
  refine sm_aload_n (pc := 0) (n := 0) dX8_modular_0 rfl ?_
  refine sm_iload_n (pc := 1) (n := 1) dX8_modular_1 rfl ?_
  refine sm_cV (pc := 2) (ci := 8) (n := 2) (mc := 0) (ms := 0) rfl m_X8_isRegularPartition (cr_X8_212 (X := X_X8_modular) (fr := 3) (frc := 2) (pc := 2) (mc := 0) (ms := 0) rfl (by decide) dX8_modular_2) ?_
  refine sm_join (pc := 5) (pc' := 28) (sbX8_modular_28 P) (fun j28 hj28 => ?_)
  refine sm_if_eq (pc := 5) (tgt := 28) dX8_modular_5 (by decide) ?_ ?_
  · skip
    exact hj28
  · skip
    refine sm_aload_n (pc := 8) (n := 0) dX8_modular_8 rfl ?_
    refine sm_iload_n (pc := 9) (n := 2) dX8_modular_9 rfl ?_
    refine sm_cV (pc := 10) (ci := 8) (n := 2) (mc := 0) (ms := 0) rfl m_X8_isPartition (cr_X8_126 (X := X_X8_modular) (fr := 3) (frc := 1) (pc := 10) (mc := 0) (ms := 0) rfl (by decide) dX8_modular_10) ?_
    refine sm_if_eq (pc := 13) (tgt := 28) dX8_modular_13 (by decide) ?_ ?_
    · skip
      exact hj28
    · skip
      refine sm_aload_n (pc := 16) (n := 0) dX8_modular_16 rfl ?_
      refine gf_X8_47 (pc := 17) rfl dX8_modular_17 ?_
      refine gf_X8_199 (pc := 20) rfl dX8_modular_20 ?_
      refine sm_iload_n (pc := 23) (n := 2) dX8_modular_23 rfl ?_
      refine sm_baload (pc := 24) dX8_modular_24 ?_
      refine sm_if_ne (pc := 25) (tgt := 32) dX8_modular_25 (by decide) ?_ ?_
      · skip
        refine sm_aload_n (pc := 32) (n := 0) dX8_modular_32 rfl ?_
        refine gf_X8_47 (pc := 33) rfl dX8_modular_33 ?_
        refine gf_X8_215 (pc := 36) rfl dX8_modular_36 ?_
        refine sm_iload_n (pc := 39) (n := 1) dX8_modular_39 rfl ?_
        refine sm_aaload (pc := 40) dX8_modular_40 ?_
        refine sm_iload_n (pc := 41) (n := 2) dX8_modular_41 rfl ?_
        refine sm_iaload (pc := 42) dX8_modular_42 ?_
        exact sm_ireturn (pc := 43) dX8_modular_43 rfl
      · skip
        exact hj28
noncomputable def f_X8_modular {d : Nat} : List zV → zH d → zP d → Bool := zfn 3 b_X8_modular
theorem m_X8_modular {d : Nat} : zMet (d := d) X_X8_modular yX8_modular 3 f_X8_modular := zmet_mk (X := X_X8_modular) (by decide) rfl rfl s_X8_modular

abbrev X_X8_projective : zM := (RX8, cX8_projective, 3, (some .int), "projective")
noncomputable def bX8_projective_33 {d : Nat} (P : zP d) : zK d := (xiret P)
set_option maxRecDepth 100000 in
set_option maxHeartbeats 4000000 in
theorem sbX8_projective_33 {d : Nat} [zGh] (P : zP d) : zSim X_X8_projective 3 P 33 (bX8_projective_33 P) := by
  unfold bX8_projective_33
  exact sm_ireturn (pc := 33) dX8_projective_33 rfl
noncomputable def bX8_projective_30 {d : Nat} (P : zP d) (j33 : zK d) : zK d := (xpI 4294966295 j33)
set_option maxRecDepth 100000 in
set_option maxHeartbeats 4000000 in
theorem sbX8_projective_30 {d : Nat} [zGh] (P : zP d) (j33 : zK d) (hj33 : zSim X_X8_projective 3 P 33 j33) : zSim X_X8_projective 3 P 30 (bX8_projective_30 P j33) := by
  unfold bX8_projective_30
  refine sm_sipush (pc := 30) dX8_projective_30 zc_s_m1001 ?_
  exact hj33
noncomputable def b_X8_projective {d : Nat} (P : zP d) : zK d := (xald 0 (xild 1 (xcV 24 2 0 0 f_X8_isRegularPartition (xjoin (bX8_projective_33 P) (fun j33 => (xjoin (bX8_projective_30 P j33) (fun j30 => (xif0 t0eq j30 (xald 0 (xild 2 (xcV 24 2 0 0 f_X8_isPartition (xif0 t0eq j30 (xald 0 (xgfR 24 7 (xgfR 21 9 (xild 1 (xaal (xild 2 (xald1 0 j33)))))))))))))))))))
set_option maxRecDepth 100000 in
set_option maxHeartbeats 4000000 in
theorem s_X8_projective {d : Nat} [zGh] (P : zP d) : zSim X_X8_projective 3 P 0 (b_X8_projective P) := by
  unfold b_X8_projective
  refine sm_aload_n (pc := 0) (n := 0) dX8_projective_0 rfl ?_
  refine sm_iload_n (pc := 1) (n := 1) dX8_projective_1 rfl ?_
  refine sm_cV (pc := 2) (ci := 8) (n := 2) (mc := 0) (ms := 0) rfl m_X8_isRegularPartition (cr_X8_212 (X := X_X8_projective) (fr := 3) (frc := 2) (pc := 2) (mc := 0) (ms := 0) rfl (by decide) dX8_projective_2) ?_
  refine sm_join (pc := 5) (pc' := 33) (sbX8_projective_33 P) (fun j33 hj33 => ?_)
  refine sm_join (pc := 5) (pc' := 30) (sbX8_projective_30 P j33 hj33) (fun j30 hj30 => ?_)
  refine sm_if_eq (pc := 5) (tgt := 30) dX8_projective_5 (by decide) ?_ ?_
  · skip
    exact hj30
  · skip
    refine sm_aload_n (pc := 8) (n := 0) dX8_projective_8 rfl ?_
    refine sm_iload_n (pc := 9) (n := 2) dX8_projective_9 rfl ?_
    refine sm_cV (pc := 10) (ci := 8) (n := 2) (mc := 0) (ms := 0) rfl m_X8_isPartition (cr_X8_126 (X := X_X8_projective) (fr := 3) (frc := 1) (pc := 10) (mc := 0) (ms := 0) rfl (by decide) dX8_projective_10) ?_
    refine sm_if_eq (pc := 13) (tgt := 30) dX8_projective_13 (by decide) ?_ ?_
    · skip
      exact hj30
    · skip
      refine sm_aload_n (pc := 16) (n := 0) dX8_projective_16 rfl ?_
      refine gf_X8_47 (pc := 17) rfl dX8_projective_17 ?_
      refine gf_X8_218 (pc := 20) rfl dX8_projective_20 ?_
      refine sm_iload_n (pc := 23) (n := 1) dX8_projective_23 rfl ?_
      refine sm_aaload (pc := 24) dX8_projective_24 ?_
      refine sm_iload_n (pc := 25) (n := 2) dX8_projective_25 rfl ?_
      refine sm_iaload (pc := 26) dX8_projective_26 ?_
      refine sm_goto (pc := 27) (tgt := 33) dX8_projective_27 (by decide) ?_
      exact hj33
noncomputable def f_X8_projective {d : Nat} : List zV → zH d → zP d → Bool := zfn 3 b_X8_projective
theorem m_X8_projective {d : Nat} : zMet (d := d) X_X8_projective yX8_projective 3 f_X8_projective := zmet_mk (X := X_X8_projective) (by decide) rfl rfl s_X8_projective

abbrev X_X8_decomposition : zM := (RX8, cX8_decomposition, 3, (some .int), "decomposition")
noncomputable def bX8_decomposition_31 {d : Nat} (P : zP d) : zK d := (xiret P)
set_option maxRecDepth 100000 in
set_option maxHeartbeats 4000000 in
theorem sbX8_decomposition_31 {d : Nat} [zGh] (P : zP d) : zSim X_X8_decomposition 3 P 31 (bX8_decomposition_31 P) := by
  unfold bX8_decomposition_31
  exact sm_ireturn (pc := 31) dX8_decomposition_31 rfl
noncomputable def bX8_decomposition_30 {d : Nat} (P : zP d) (j31 : zK d) : zK d := (xpI 4294967295 j31)
set_option maxRecDepth 100000 in
set_option maxHeartbeats 4000000 in
theorem sbX8_decomposition_30 {d : Nat} [zGh] (P : zP d) (j31 : zK d) (hj31 : zSim X_X8_decomposition 3 P 31 j31) : zSim X_X8_decomposition 3 P 30 (bX8_decomposition_30 P j31) := by
  unfold bX8_decomposition_30
  refine sm_iconst (pc := 30) dX8_decomposition_30 zc_i_m1 ?_
  exact hj31
noncomputable def b_X8_decomposition {d : Nat} (P : zP d) : zK d := (xald 0 (xild 1 (xcV 24 2 0 0 f_X8_isPartition (xjoin (bX8_decomposition_31 P) (fun j31 => (xjoin (bX8_decomposition_30 P j31) (fun j30 => (xif0 t0eq j30 (xald 0 (xild 2 (xcV 24 2 0 0 f_X8_isRegularPartition (xif0 t0eq j30 (xald 0 (xgfR 24 7 (xgfR 21 7 (xild 1 (xaal (xild 2 (xald1 0 j31)))))))))))))))))))
set_option maxRecDepth 100000 in
set_option maxHeartbeats 4000000 in
theorem s_X8_decomposition {d : Nat} [zGh] (P : zP d) : zSim X_X8_decomposition 3 P 0 (b_X8_decomposition P) := by
  unfold b_X8_decomposition
  refine sm_aload_n (pc := 0) (n := 0) dX8_decomposition_0 rfl ?_
  refine sm_iload_n (pc := 1) (n := 1) dX8_decomposition_1 rfl ?_
  refine sm_cV (pc := 2) (ci := 8) (n := 2) (mc := 0) (ms := 0) rfl m_X8_isPartition (cr_X8_126 (X := X_X8_decomposition) (fr := 3) (frc := 1) (pc := 2) (mc := 0) (ms := 0) rfl (by decide) dX8_decomposition_2) ?_
  refine sm_join (pc := 5) (pc' := 31) (sbX8_decomposition_31 P) (fun j31 hj31 => ?_)
  refine sm_join (pc := 5) (pc' := 30) (sbX8_decomposition_30 P j31 hj31) (fun j30 hj30 => ?_)
  refine sm_if_eq (pc := 5) (tgt := 30) dX8_decomposition_5 (by decide) ?_ ?_
  · skip
    exact hj30
  · skip
    refine sm_aload_n (pc := 8) (n := 0) dX8_decomposition_8 rfl ?_
    refine sm_iload_n (pc := 9) (n := 2) dX8_decomposition_9 rfl ?_
    refine sm_cV (pc := 10) (ci := 8) (n := 2) (mc := 0) (ms := 0) rfl m_X8_isRegularPartition (cr_X8_212 (X := X_X8_decomposition) (fr := 3) (frc := 2) (pc := 10) (mc := 0) (ms := 0) rfl (by decide) dX8_decomposition_10) ?_
    refine sm_if_eq (pc := 13) (tgt := 30) dX8_decomposition_13 (by decide) ?_ ?_
    · skip
      exact hj30
    · skip
      refine sm_aload_n (pc := 16) (n := 0) dX8_decomposition_16 rfl ?_
      refine gf_X8_47 (pc := 17) rfl dX8_decomposition_17 ?_
      refine gf_X8_221 (pc := 20) rfl dX8_decomposition_20 ?_
      refine sm_iload_n (pc := 23) (n := 1) dX8_decomposition_23 rfl ?_
      refine sm_aaload (pc := 24) dX8_decomposition_24 ?_
      refine sm_iload_n (pc := 25) (n := 2) dX8_decomposition_25 rfl ?_
      refine sm_iaload (pc := 26) dX8_decomposition_26 ?_
      refine sm_goto (pc := 27) (tgt := 31) dX8_decomposition_27 (by decide) ?_
      exact hj31
noncomputable def f_X8_decomposition {d : Nat} : List zV → zH d → zP d → Bool := zfn 3 b_X8_decomposition
theorem m_X8_decomposition {d : Nat} : zMet (d := d) X_X8_decomposition yX8_decomposition 3 f_X8_decomposition := zmet_mk (X := X_X8_decomposition) (by decide) rfl rfl s_X8_decomposition

abbrev X_X8_cartan : zM := (RX8, cX8_cartan, 3, (some .int), "cartan")
noncomputable def bX8_cartan_31 {d : Nat} (P : zP d) : zK d := (xiret P)
set_option maxRecDepth 100000 in
set_option maxHeartbeats 4000000 in
theorem sbX8_cartan_31 {d : Nat} [zGh] (P : zP d) : zSim X_X8_cartan 3 P 31 (bX8_cartan_31 P) := by
  unfold bX8_cartan_31
  exact sm_ireturn (pc := 31) dX8_cartan_31 rfl
noncomputable def bX8_cartan_30 {d : Nat} (P : zP d) (j31 : zK d) : zK d := (xpI 4294967295 j31)
set_option maxRecDepth 100000 in
set_option maxHeartbeats 4000000 in
theorem sbX8_cartan_30 {d : Nat} [zGh] (P : zP d) (j31 : zK d) (hj31 : zSim X_X8_cartan 3 P 31 j31) : zSim X_X8_cartan 3 P 30 (bX8_cartan_30 P j31) := by
  unfold bX8_cartan_30
  refine sm_iconst (pc := 30) dX8_cartan_30 zc_i_m1 ?_
  exact hj31
noncomputable def b_X8_cartan {d : Nat} (P : zP d) : zK d := (xald 0 (xild 1 (xcV 24 2 0 0 f_X8_isRegularPartition (xjoin (bX8_cartan_31 P) (fun j31 => (xjoin (bX8_cartan_30 P j31) (fun j30 => (xif0 t0eq j30 (xald 0 (xild 2 (xcV 24 2 0 0 f_X8_isRegularPartition (xif0 t0eq j30 (xald 0 (xgfR 24 7 (xgfR 21 8 (xild 1 (xaal (xild 2 (xald1 0 j31)))))))))))))))))))
set_option maxRecDepth 100000 in
set_option maxHeartbeats 4000000 in
theorem s_X8_cartan {d : Nat} [zGh] (P : zP d) : zSim X_X8_cartan 3 P 0 (b_X8_cartan P) := by
  unfold b_X8_cartan
  refine sm_aload_n (pc := 0) (n := 0) dX8_cartan_0 rfl ?_
  refine sm_iload_n (pc := 1) (n := 1) dX8_cartan_1 rfl ?_
  refine sm_cV (pc := 2) (ci := 8) (n := 2) (mc := 0) (ms := 0) rfl m_X8_isRegularPartition (cr_X8_212 (X := X_X8_cartan) (fr := 3) (frc := 2) (pc := 2) (mc := 0) (ms := 0) rfl (by decide) dX8_cartan_2) ?_
  refine sm_join (pc := 5) (pc' := 31) (sbX8_cartan_31 P) (fun j31 hj31 => ?_)
  refine sm_join (pc := 5) (pc' := 30) (sbX8_cartan_30 P j31 hj31) (fun j30 hj30 => ?_)
  refine sm_if_eq (pc := 5) (tgt := 30) dX8_cartan_5 (by decide) ?_ ?_
  · skip
    exact hj30
  · skip
    refine sm_aload_n (pc := 8) (n := 0) dX8_cartan_8 rfl ?_
    refine sm_iload_n (pc := 9) (n := 2) dX8_cartan_9 rfl ?_
    refine sm_cV (pc := 10) (ci := 8) (n := 2) (mc := 0) (ms := 0) rfl m_X8_isRegularPartition (cr_X8_212 (X := X_X8_cartan) (fr := 3) (frc := 2) (pc := 10) (mc := 0) (ms := 0) rfl (by decide) dX8_cartan_10) ?_
    refine sm_if_eq (pc := 13) (tgt := 30) dX8_cartan_13 (by decide) ?_ ?_
    · skip
      exact hj30
    · skip
      refine sm_aload_n (pc := 16) (n := 0) dX8_cartan_16 rfl ?_
      refine gf_X8_47 (pc := 17) rfl dX8_cartan_17 ?_
      refine gf_X8_224 (pc := 20) rfl dX8_cartan_20 ?_
      refine sm_iload_n (pc := 23) (n := 1) dX8_cartan_23 rfl ?_
      refine sm_aaload (pc := 24) dX8_cartan_24 ?_
      refine sm_iload_n (pc := 25) (n := 2) dX8_cartan_25 rfl ?_
      refine sm_iaload (pc := 26) dX8_cartan_26 ?_
      refine sm_goto (pc := 27) (tgt := 31) dX8_cartan_27 (by decide) ?_
      exact hj31
noncomputable def f_X8_cartan {d : Nat} : List zV → zH d → zP d → Bool := zfn 3 b_X8_cartan
theorem m_X8_cartan {d : Nat} : zMet (d := d) X_X8_cartan yX8_cartan 3 f_X8_cartan := zmet_mk (X := X_X8_cartan) (by decide) rfl rfl s_X8_cartan

abbrev X_X8_tableau : zM := (RX8, cX8_tableau, 6, (some .int), "tableau")
noncomputable def bX8_tableau_56 {d : Nat} (P : zP d) : zK d := (xpI 4294967295 (xiret P))
set_option maxRecDepth 100000 in
set_option maxHeartbeats 4000000 in
theorem sbX8_tableau_56 {d : Nat} [zGh] (P : zP d) : zSim X_X8_tableau 2 P 56 (bX8_tableau_56 P) := by
  unfold bX8_tableau_56
  refine sm_iconst (pc := 56) dX8_tableau_56 zc_i_m1 ?_
  exact sm_ireturn (pc := 57) dX8_tableau_57 rfl
noncomputable def cX8_tableau_58 {d : Nat} (P : zP d) : zK d := (xald 5 (xgfR 20 6 (xild 2 (xaal (xald 5 (xgfR 20 4 (xild 3 (xald1 0 (xild 4 (xbin zadd (xald1 0 (xiret P))))))))))))
set_option maxRecDepth 100000 in
set_option maxHeartbeats 4000000 in
theorem scX8_tableau_58 {d : Nat} [zGh] (P : zP d) : zSim X_X8_tableau 2 P 58 (cX8_tableau_58 P) := by
  unfold cX8_tableau_58
  refine sm_aload (pc := 58) (n := 5) dX8_tableau_58 ?_
  refine gf_X8_227 (pc := 60) rfl dX8_tableau_60 ?_
  refine sm_iload_n (pc := 63) (n := 2) dX8_tableau_63 rfl ?_
  refine sm_aaload (pc := 64) dX8_tableau_64 ?_
  refine sm_aload (pc := 65) (n := 5) dX8_tableau_65 ?_
  refine gf_X8_230 (pc := 67) rfl dX8_tableau_67 ?_
  refine sm_iload_n (pc := 70) (n := 3) dX8_tableau_70 rfl ?_
  refine sm_iaload (pc := 71) dX8_tableau_71 ?_
  refine sm_iload (pc := 72) (n := 4) dX8_tableau_72 ?_
  refine sm_iadd (pc := 74) dX8_tableau_74 ?_
  refine sm_iaload (pc := 75) dX8_tableau_75 ?_
  exact sm_ireturn (pc := 76) dX8_tableau_76 rfl
noncomputable def b_X8_tableau {d : Nat} (P : zP d) : zK d := (xald 0 (xild 1 (xcV 24 2 0 0 f_X8_isPartition (xif0 t0eq (xpI 4294967295 (xiret P)) (xald 0 (xgfR 24 6 (xgfR 23 3 (xild 1 (xaal (xast 5 (xild 3 (xpI 4294967295 (xcmp Nat.beq (xald 5 (xgfI 20 5 (xiret P))) (xild 2 (xjoin (bX8_tableau_56 P) (fun j56 => (xif0 t0ge (xild 2 (xald 5 (xgfI 20 5 (xcmp tge j56 (xald 5 (xild 3 (xild 4 (xcV 20 3 0 0 f_X4_hasCell (xif0 t0eq j56 (cX8_tableau_58 P)))))))))) j56)))))))))))))))))
set_option maxRecDepth 100000 in
set_option maxHeartbeats 4000000 in
theorem s_X8_tableau {d : Nat} [zGh] (P : zP d) : zSim X_X8_tableau 2 P 0 (b_X8_tableau P) := by
  unfold b_X8_tableau
  refine sm_aload_n (pc := 0) (n := 0) dX8_tableau_0 rfl ?_
  refine sm_iload_n (pc := 1) (n := 1) dX8_tableau_1 rfl ?_
  refine sm_cV (pc := 2) (ci := 8) (n := 2) (mc := 0) (ms := 0) rfl m_X8_isPartition (cr_X8_126 (X := X_X8_tableau) (fr := 2) (frc := 1) (pc := 2) (mc := 0) (ms := 0) rfl (by decide) dX8_tableau_2) ?_
  refine sm_if_ne (pc := 5) (tgt := 10) dX8_tableau_5 (by decide) ?_ ?_
  · skip
    refine sm_aload_n (pc := 10) (n := 0) dX8_tableau_10 rfl ?_
    refine gf_X8_40 (pc := 11) rfl dX8_tableau_11 ?_
    refine gf_X8_129 (pc := 14) rfl dX8_tableau_14 ?_
    refine sm_iload_n (pc := 17) (n := 1) dX8_tableau_17 rfl ?_
    refine sm_aaload (pc := 18) dX8_tableau_18 ?_
    refine sm_astore (pc := 19) (n := 5) dX8_tableau_19 ?_
    refine sm_iload_n (pc := 21) (n := 3) dX8_tableau_21 rfl ?_
    refine sm_iconst (pc := 22) dX8_tableau_22 zc_i_m1 ?_
    refine sm_icmp_ne (pc := 23) (tgt := 32) dX8_tableau_23 (by decide) ?_ ?_
    · skip
      refine sm_iload_n (pc := 32) (n := 2) dX8_tableau_32 rfl ?_
      refine sm_join (pc := 33) (pc' := 56) (sbX8_tableau_56 P) (fun j56 hj56 => ?_)
      refine sm_if_lt (pc := 33) (tgt := 56) dX8_tableau_33 (by decide) ?_ ?_
      · skip
        exact hj56
      · skip
        refine sm_iload_n (pc := 36) (n := 2) dX8_tableau_36 rfl ?_
        refine sm_aload (pc := 37) (n := 5) dX8_tableau_37 ?_
        refine gf_X8_164 (pc := 39) rfl dX8_tableau_39 ?_
        refine sm_icmp_ge (pc := 42) (tgt := 56) dX8_tableau_42 (by decide) ?_ ?_
        · skip
          exact hj56
        · skip
          refine sm_aload (pc := 45) (n := 5) dX8_tableau_45 ?_
          refine sm_iload_n (pc := 47) (n := 3) dX8_tableau_47 rfl ?_
          refine sm_iload (pc := 48) (n := 4) dX8_tableau_48 ?_
          refine sm_cV (pc := 50) (ci := 4) (n := 3) (mc := 0) (ms := 0) rfl m_X4_hasCell (cr_X8_186 (X := X_X8_tableau) (fr := 2) (frc := 1) (pc := 50) (mc := 0) (ms := 0) rfl (by decide) dX8_tableau_50) ?_
          refine sm_if_ne (pc := 53) (tgt := 58) dX8_tableau_53 (by decide) ?_ ?_
          · skip
            exact scX8_tableau_58 P
          · skip
            exact hj56
    · skip
      refine sm_aload (pc := 26) (n := 5) dX8_tableau_26 ?_
      refine gf_X8_164 (pc := 28) rfl dX8_tableau_28 ?_
      exact sm_ireturn (pc := 31) dX8_tableau_31 rfl
  · skip
    refine sm_iconst (pc := 8) dX8_tableau_8 zc_i_m1 ?_
    exact sm_ireturn (pc := 9) dX8_tableau_9 rfl
noncomputable def f_X8_tableau {d : Nat} : List zV → zH d → zP d → Bool := zfn 6 b_X8_tableau
theorem m_X8_tableau {d : Nat} : zMet (d := d) X_X8_tableau yX8_tableau 2 f_X8_tableau := zmet_mk (X := X_X8_tableau) (by decide) rfl rfl s_X8_tableau

abbrev X_X8_gram : zM := (RX8, cX8_gram, 5, (some .int), "gram")
noncomputable def bX8_gram_49 {d : Nat} (P : zP d) : zK d := (xpI 4294966295 (xiret P))
set_option maxRecDepth 100000 in
set_option maxHeartbeats 4000000 in
theorem sbX8_gram_49 {d : Nat} [zGh] (P : zP d) : zSim X_X8_gram 2 P 49 (bX8_gram_49 P) := by
  unfold bX8_gram_49
  refine sm_sipush (pc := 49) dX8_gram_49 zc_s_m1001 ?_
  exact sm_ireturn (pc := 52) dX8_gram_52 rfl
noncomputable def cX8_gram_58 {d : Nat} (P : zP d) : zK d := (xild 2 (xaal (xild 3 (xald1 0 (xiret P)))))
set_option maxRecDepth 100000 in
set_option maxHeartbeats 4000000 in
theorem scX8_gram_58 {d : Nat} [zGh] (P : zP d) : zSim X_X8_gram 2 P 58 (cX8_gram_58 P) := by
  unfold cX8_gram_58
  refine sm_iload_n (pc := 58) (n := 2) dX8_gram_58 rfl ?_
  refine sm_aaload (pc := 59) dX8_gram_59 ?_
  refine sm_iload_n (pc := 60) (n := 3) dX8_gram_60 rfl ?_
  refine sm_iaload (pc := 61) dX8_gram_61 ?_
  exact sm_ireturn (pc := 62) dX8_gram_62 rfl
noncomputable def b_X8_gram {d : Nat} (P : zP d) : zK d := (xald 0 (xild 1 (xcV 24 2 0 0 f_X8_isPartition (xif0 t0eq (xpI 4294966295 (xiret P)) (xald 0 (xgfR 24 6 (xgfR 23 3 (xild 1 (xaal (xast 4 (xild 2 (xjoin (bX8_gram_49 P) (fun j49 => (xif0 t0ge (xild 2 (xald 4 (xgfI 20 5 (xcmp tge j49 (xild 3 (xif0 t0ge (xild 3 (xald 4 (xgfI 20 5 (xcmp tge j49 (xald 4 (xgfR 20 7 (cX8_gram_58 P))))))) j49)))))) j49))))))))))))))
set_option maxRecDepth 100000 in
set_option maxHeartbeats 4000000 in
theorem s_X8_gram {d : Nat} [zGh] (P : zP d) : zSim X_X8_gram 2 P 0 (b_X8_gram P) := by
  unfold b_X8_gram
  refine sm_aload_n (pc := 0) (n := 0) dX8_gram_0 rfl ?_
  refine sm_iload_n (pc := 1) (n := 1) dX8_gram_1 rfl ?_
  refine sm_cV (pc := 2) (ci := 8) (n := 2) (mc := 0) (ms := 0) rfl m_X8_isPartition (cr_X8_126 (X := X_X8_gram) (fr := 2) (frc := 1) (pc := 2) (mc := 0) (ms := 0) rfl (by decide) dX8_gram_2) ?_
  refine sm_if_ne (pc := 5) (tgt := 12) dX8_gram_5 (by decide) ?_ ?_
  · skip
    refine sm_aload_n (pc := 12) (n := 0) dX8_gram_12 rfl ?_
    refine gf_X8_40 (pc := 13) rfl dX8_gram_13 ?_
    refine gf_X8_129 (pc := 16) rfl dX8_gram_16 ?_
    refine sm_iload_n (pc := 19) (n := 1) dX8_gram_19 rfl ?_
    refine sm_aaload (pc := 20) dX8_gram_20 ?_
    refine sm_astore (pc := 21) (n := 4) dX8_gram_21 ?_
    refine sm_iload_n (pc := 23) (n := 2) dX8_gram_23 rfl ?_
    refine sm_join (pc := 24) (pc' := 49) (sbX8_gram_49 P) (fun j49 hj49 => ?_)
    refine sm_if_lt (pc := 24) (tgt := 49) dX8_gram_24 (by decide) ?_ ?_
    · skip
      exact hj49
    · skip
      refine sm_iload_n (pc := 27) (n := 2) dX8_gram_27 rfl ?_
      refine sm_aload (pc := 28) (n := 4) dX8_gram_28 ?_
      refine gf_X8_164 (pc := 30) rfl dX8_gram_30 ?_
      refine sm_icmp_ge (pc := 33) (tgt := 49) dX8_gram_33 (by decide) ?_ ?_
      · skip
        exact hj49
      · skip
        refine sm_iload_n (pc := 36) (n := 3) dX8_gram_36 rfl ?_
        refine sm_if_lt (pc := 37) (tgt := 49) dX8_gram_37 (by decide) ?_ ?_
        · skip
          exact hj49
        · skip
          refine sm_iload_n (pc := 40) (n := 3) dX8_gram_40 rfl ?_
          refine sm_aload (pc := 41) (n := 4) dX8_gram_41 ?_
          refine gf_X8_164 (pc := 43) rfl dX8_gram_43 ?_
          refine sm_icmp_lt (pc := 46) (tgt := 53) dX8_gram_46 (by decide) ?_ ?_
          · skip
            refine sm_aload (pc := 53) (n := 4) dX8_gram_53 ?_
            refine gf_X8_233 (pc := 55) rfl dX8_gram_55 ?_
            exact scX8_gram_58 P
          · skip
            exact hj49
  · skip
    refine sm_sipush (pc := 8) dX8_gram_8 zc_s_m1001 ?_
    exact sm_ireturn (pc := 11) dX8_gram_11 rfl
noncomputable def f_X8_gram {d : Nat} : List zV → zH d → zP d → Bool := zfn 5 b_X8_gram
theorem m_X8_gram {d : Nat} : zMet (d := d) X_X8_gram yX8_gram 2 f_X8_gram := zmet_mk (X := X_X8_gram) (by decide) rfl rfl s_X8_gram

abbrev X_X8_block : zM := (RX8, cX8_block, 4, (some .int), "block")
noncomputable def bX8_block_30 {d : Nat} (P : zP d) : zK d := (xpI 4294967295 (xiret P))
set_option maxRecDepth 100000 in
set_option maxHeartbeats 4000000 in
theorem sbX8_block_30 {d : Nat} [zGh] (P : zP d) : zSim X_X8_block 1 P 30 (bX8_block_30 P) := by
  unfold bX8_block_30
  refine sm_iconst (pc := 30) dX8_block_30 zc_i_m1 ?_
  exact sm_ireturn (pc := 31) dX8_block_31 rfl
noncomputable def bX8_block_122 {d : Nat} (P : zP d) : zK d := (xpI 4294967295 (xiret P))
set_option maxRecDepth 100000 in
set_option maxHeartbeats 4000000 in
theorem sbX8_block_122 {d : Nat} [zGh] (P : zP d) : zSim X_X8_block 1 P 122 (bX8_block_122 P) := by
  unfold bX8_block_122
  refine sm_iconst (pc := 122) dX8_block_122 zc_i_m1 ?_
  exact sm_ireturn (pc := 123) dX8_block_123 rfl
noncomputable def bX8_block_72 {d : Nat} (P : zP d) : zK d := (xald 3 (xgfR 16 5 (xild 1 (xald1 0 (xiret P)))))
set_option maxRecDepth 100000 in
set_option maxHeartbeats 4000000 in
theorem sbX8_block_72 {d : Nat} [zGh] (P : zP d) : zSim X_X8_block 1 P 72 (bX8_block_72 P) := by
  unfold bX8_block_72
  refine sm_aload_n (pc := 72) (n := 3) dX8_block_72 rfl ?_
  refine gf_X8_237 (pc := 73) rfl dX8_block_73 ?_
  refine sm_iload_n (pc := 76) (n := 1) dX8_block_76 rfl ?_
  refine sm_iaload (pc := 77) dX8_block_77 ?_
  exact sm_ireturn (pc := 78) dX8_block_78 rfl
noncomputable def bX8_block_79 {d : Nat} (P : zP d) : zK d := (xald 3 (xgfR 16 6 (xild 1 (xald1 0 (xiret P)))))
set_option maxRecDepth 100000 in
set_option maxHeartbeats 4000000 in
theorem sbX8_block_79 {d : Nat} [zGh] (P : zP d) : zSim X_X8_block 1 P 79 (bX8_block_79 P) := by
  unfold bX8_block_79
  refine sm_aload_n (pc := 79) (n := 3) dX8_block_79 rfl ?_
  refine gf_X8_240 (pc := 80) rfl dX8_block_80 ?_
  refine sm_iload_n (pc := 83) (n := 1) dX8_block_83 rfl ?_
  refine sm_iaload (pc := 84) dX8_block_84 ?_
  exact sm_ireturn (pc := 85) dX8_block_85 rfl
noncomputable def bX8_block_86 {d : Nat} (P : zP d) : zK d := (xald 3 (xgfR 16 0 (xald 3 (xgfR 16 4 (xild 1 (xald1 0 (xald1 0 (xiret P))))))))
set_option maxRecDepth 100000 in
set_option maxHeartbeats 4000000 in
theorem sbX8_block_86 {d : Nat} [zGh] (P : zP d) : zSim X_X8_block 1 P 86 (bX8_block_86 P) := by
  unfold bX8_block_86
  refine sm_aload_n (pc := 86) (n := 3) dX8_block_86 rfl ?_
  refine gf_X8_156 (pc := 87) rfl dX8_block_87 ?_
  refine sm_aload_n (pc := 90) (n := 3) dX8_block_90 rfl ?_
  refine gf_X8_243 (pc := 91) rfl dX8_block_91 ?_
  refine sm_iload_n (pc := 94) (n := 1) dX8_block_94 rfl ?_
  refine sm_iaload (pc := 95) dX8_block_95 ?_
  refine sm_iaload (pc := 96) dX8_block_96 ?_
  exact sm_ireturn (pc := 97) dX8_block_97 rfl
noncomputable def bX8_block_98 {d : Nat} (P : zP d) : zK d := (xald 3 (xgfR 16 7 (xild 1 (xald1 0 (xiret P)))))
set_option maxRecDepth 100000 in
set_option maxHeartbeats 4000000 in
theorem sbX8_block_98 {d : Nat} [zGh] (P : zP d) : zSim X_X8_block 1 P 98 (bX8_block_98 P) := by
  unfold bX8_block_98
  refine sm_aload_n (pc := 98) (n := 3) dX8_block_98 rfl ?_
  refine gf_X8_246 (pc := 99) rfl dX8_block_99 ?_
  refine sm_iload_n (pc := 102) (n := 1) dX8_block_102 rfl ?_
  refine sm_iaload (pc := 103) dX8_block_103 ?_
  exact sm_ireturn (pc := 104) dX8_block_104 rfl
noncomputable def bX8_block_105 {d : Nat} (P : zP d) : zK d := (xald 3 (xgfR 16 4 (xild 1 (xald1 0 (xiret P)))))
set_option maxRecDepth 100000 in
set_option maxHeartbeats 4000000 in
theorem sbX8_block_105 {d : Nat} [zGh] (P : zP d) : zSim X_X8_block 1 P 105 (bX8_block_105 P) := by
  unfold bX8_block_105
  refine sm_aload_n (pc := 105) (n := 3) dX8_block_105 rfl ?_
  refine gf_X8_243 (pc := 106) rfl dX8_block_106 ?_
  refine sm_iload_n (pc := 109) (n := 1) dX8_block_109 rfl ?_
  refine sm_iaload (pc := 110) dX8_block_110 ?_
  exact sm_ireturn (pc := 111) dX8_block_111 rfl
noncomputable def bX8_block_112 {d : Nat} (P : zP d) : zK d := (xald 0 (xgfR 24 7 (xgfR 21 11 (xild 1 (xald1 0 (xiret P))))))
set_option maxRecDepth 100000 in
set_option maxHeartbeats 4000000 in
theorem sbX8_block_112 {d : Nat} [zGh] (P : zP d) : zSim X_X8_block 1 P 112 (bX8_block_112 P) := by
  unfold bX8_block_112
  refine sm_aload_n (pc := 112) (n := 0) dX8_block_112 rfl ?_
  refine gf_X8_47 (pc := 113) rfl dX8_block_113 ?_
  refine gf_X8_249 (pc := 116) rfl dX8_block_116 ?_
  refine sm_iload_n (pc := 119) (n := 1) dX8_block_119 rfl ?_
  refine sm_iaload (pc := 120) dX8_block_120 ?_
  exact sm_ireturn (pc := 121) dX8_block_121 rfl
noncomputable def b_X8_block {d : Nat} (P : zP d) : zK d := (xald 0 (xgfR 24 7 (xgfR 21 10 (xast 3 (xild 2 (xpI 4294967295 (xcmp Nat.beq (xald 3 (xgfI 16 3 (xiret P))) (xild 1 (xjoin (bX8_block_30 P) (fun j30 => (xif0 t0ge (xild 1 (xald 3 (xgfI 16 3 (xcmp tge j30 (xild 2 (xtsw [(bX8_block_72 P), (bX8_block_79 P), (bX8_block_86 P), (bX8_block_98 P), (bX8_block_105 P), (bX8_block_112 P)] (bX8_block_122 P))))))) j30)))))))))))
set_option maxRecDepth 100000 in
set_option maxHeartbeats 4000000 in
theorem s_X8_block {d : Nat} [zGh] (P : zP d) : zSim X_X8_block 1 P 0 (b_X8_block P) := by
  unfold b_X8_block
  refine sm_aload_n (pc := 0) (n := 0) dX8_block_0 rfl ?_
  refine gf_X8_47 (pc := 1) rfl dX8_block_1 ?_
  refine gf_X8_152 (pc := 4) rfl dX8_block_4 ?_
  refine sm_astore_n (pc := 7) (n := 3) dX8_block_7 rfl ?_
  refine sm_iload_n (pc := 8) (n := 2) dX8_block_8 rfl ?_
  refine sm_iconst (pc := 9) dX8_block_9 zc_i_m1 ?_
  refine sm_icmp_ne (pc := 10) (tgt := 18) dX8_block_10 (by decide) ?_ ?_
  · skip
    refine sm_iload_n (pc := 18) (n := 1) dX8_block_18 rfl ?_
    refine sm_join (pc := 19) (pc' := 30) (sbX8_block_30 P) (fun j30 hj30 => ?_)
    refine sm_if_lt (pc := 19) (tgt := 30) dX8_block_19 (by decide) ?_ ?_
    · skip
      exact hj30
    · skip
      refine sm_iload_n (pc := 22) (n := 1) dX8_block_22 rfl ?_
      refine sm_aload_n (pc := 23) (n := 3) dX8_block_23 rfl ?_
      refine gf_X8_236 (pc := 24) rfl dX8_block_24 ?_
      refine sm_icmp_lt (pc := 27) (tgt := 32) dX8_block_27 (by decide) ?_ ?_
      · skip
        refine sm_iload_n (pc := 32) (n := 2) dX8_block_32 rfl ?_
        exact sm_tsw3 (pc := 33) (n := 5) (tdf := 122) [72, 79, 86, 98, 105, 112] rfl (by decide) dX8_block_33 rfl (by decide +kernel) (by decide) (sbX8_block_122 P) ⟨sbX8_block_72 P, sbX8_block_79 P, sbX8_block_86 P, sbX8_block_98 P, sbX8_block_105 P, sbX8_block_112 P, trivial⟩
      · skip
        exact hj30
  · skip
    refine sm_aload_n (pc := 13) (n := 3) dX8_block_13 rfl ?_
    refine gf_X8_236 (pc := 14) rfl dX8_block_14 ?_
    exact sm_ireturn (pc := 17) dX8_block_17 rfl
noncomputable def f_X8_block {d : Nat} : List zV → zH d → zP d → Bool := zfn 4 b_X8_block
theorem m_X8_block {d : Nat} : zMet (d := d) X_X8_block yX8_block 1 f_X8_block := zmet_mk (X := X_X8_block) (by decide) rfl rfl s_X8_block

abbrev X_X8_value : zM := (RX8, cX8_value, 3, (some .long), "value")
noncomputable def bX8_value_29 {d : Nat} (P : zP d) : zK d := (xlret P)
set_option maxRecDepth 100000 in
set_option maxHeartbeats 4000000 in
theorem sbX8_value_29 {d : Nat} [zGh] (P : zP d) : zSim X_X8_value 2 P 29 (bX8_value_29 P) := by
  unfold bX8_value_29
  exact sm_lreturn (pc := 29) dX8_value_29 rfl
noncomputable def bX8_value_26 {d : Nat} (P : zP d) (j29 : zK d) : zK d := (xpL 9223372036854775808 j29)
set_option maxRecDepth 100000 in
set_option maxHeartbeats 4000000 in
theorem sbX8_value_26 {d : Nat} [zGh] (P : zP d) (j29 : zK d) (hj29 : zSim X_X8_value 2 P 29 j29) : zSim X_X8_value 2 P 26 (bX8_value_26 P j29) := by
  unfold bX8_value_26
  refine sm_ldc2 (pc := 26) dX8_value_26 wd_850 zc_cl_m9223372036854775808 ?_
  exact hj29
noncomputable def b_X8_value {d : Nat} (P : zP d) : zK d := (xild 1 (xcS 1 0 0 f_X8_isSlot (xjoin (bX8_value_29 P) (fun j29 => (xjoin (bX8_value_26 P j29) (fun j26 => (xif0 t0eq j26 (xald 0 (xild 2 (xcV 24 2 0 0 f_X8_isPartition (xif0 t0eq j26 (xald 0 (xgfR 24 2 (xild 1 (xaal (xild 2 (xlal j29)))))))))))))))))
set_option maxRecDepth 100000 in
set_option maxHeartbeats 4000000 in
theorem s_X8_value {d : Nat} [zGh] (P : zP d) : zSim X_X8_value 2 P 0 (b_X8_value P) := by
  unfold b_X8_value
  refine sm_iload_n (pc := 0) (n := 1) dX8_value_0 rfl ?_
  refine sm_cS (pc := 1) (n := 1) (mc := 0) (ms := 0) m_X8_isSlot (cr_X8_88 (X := X_X8_value) (fr := 2) (frc := 1) (pc := 1) (mc := 0) (ms := 0) rfl (by decide) dX8_value_1) ?_
  refine sm_join (pc := 4) (pc' := 29) (sbX8_value_29 P) (fun j29 hj29 => ?_)
  refine sm_join (pc := 4) (pc' := 26) (sbX8_value_26 P j29 hj29) (fun j26 hj26 => ?_)
  refine sm_if_eq (pc := 4) (tgt := 26) dX8_value_4 (by decide) ?_ ?_
  · skip
    exact hj26
  · skip
    refine sm_aload_n (pc := 7) (n := 0) dX8_value_7 rfl ?_
    refine sm_iload_n (pc := 8) (n := 2) dX8_value_8 rfl ?_
    refine sm_cV (pc := 9) (ci := 8) (n := 2) (mc := 0) (ms := 0) rfl m_X8_isPartition (cr_X8_126 (X := X_X8_value) (fr := 2) (frc := 1) (pc := 9) (mc := 0) (ms := 0) rfl (by decide) dX8_value_9) ?_
    refine sm_if_eq (pc := 12) (tgt := 26) dX8_value_12 (by decide) ?_ ?_
    · skip
      exact hj26
    · skip
      refine sm_aload_n (pc := 15) (n := 0) dX8_value_15 rfl ?_
      refine gf_X8_23 (pc := 16) rfl dX8_value_16 ?_
      refine sm_iload_n (pc := 19) (n := 1) dX8_value_19 rfl ?_
      refine sm_aaload (pc := 20) dX8_value_20 ?_
      refine sm_iload_n (pc := 21) (n := 2) dX8_value_21 rfl ?_
      refine sm_laload (pc := 22) dX8_value_22 ?_
      refine sm_goto (pc := 23) (tgt := 29) dX8_value_23 (by decide) ?_
      exact hj29
noncomputable def f_X8_value {d : Nat} : List zV → zH d → zP d → Bool := zfn 3 b_X8_value
theorem m_X8_value {d : Nat} : zMet (d := d) X_X8_value yX8_value 2 f_X8_value := zmet_mk (X := X_X8_value) (by decide) rfl rfl s_X8_value

abbrev X_X8_parts : zM := (RX8, cX8_parts, 9, (some .long), "parts")
noncomputable def bX8_parts_24 {d : Nat} (P : zP d) : zK d := (xpL 9223372036854775808 (xlret P))
set_option maxRecDepth 100000 in
set_option maxHeartbeats 4000000 in
theorem sbX8_parts_24 {d : Nat} [zGh] (P : zP d) : zSim X_X8_parts 2 P 24 (bX8_parts_24 P) := by
  unfold bX8_parts_24
  refine sm_ldc2 (pc := 24) dX8_parts_24 wd_850 zc_cl_m9223372036854775808 ?_
  exact sm_lreturn (pc := 27) dX8_parts_27 rfl
noncomputable def bX8_parts_133 {d : Nat} (P : zP d) : zK d := (xlret P)
set_option maxRecDepth 100000 in
set_option maxHeartbeats 4000000 in
theorem sbX8_parts_133 {d : Nat} [zGh] (P : zP d) : zSim X_X8_parts 2 P 133 (bX8_parts_133 P) := by
  unfold bX8_parts_133
  exact sm_lreturn (pc := 133) dX8_parts_133 rfl
noncomputable def cX8_parts_122 {d : Nat} (P : zP d) (j133 : zK d) : zK d := (xald 0 (xgfR 24 6 (xgfI 23 2 (xi2l (xlld 7 (xbinjN zdivj j133))))))
set_option maxRecDepth 100000 in
set_option maxHeartbeats 4000000 in
theorem scX8_parts_122 {d : Nat} [zGh] (P : zP d) (j133 : zK d) (hj133 : zSim X_X8_parts 2 P 133 j133) : zSim X_X8_parts 2 P 122 (cX8_parts_122 P j133) := by
  unfold cX8_parts_122
  refine sm_aload_n (pc := 122) (n := 0) dX8_parts_122 rfl ?_
  refine gf_X8_40 (pc := 123) rfl dX8_parts_123 ?_
  refine gf_X8_266 (pc := 126) rfl dX8_parts_126 ?_
  refine sm_i2l (pc := 129) dX8_parts_129 ?_
  refine sm_lload (pc := 130) (n := 7) dX8_parts_130 ?_
  refine sm_ldiv (pc := 132) dX8_parts_132 ?_
  exact hj133
noncomputable def cX8_parts_114 {d : Nat} (P : zP d) (j133 : zK d) : zK d := (xlld 5 (xlld 7 (xbinjN zdivj j133)))
set_option maxRecDepth 100000 in
set_option maxHeartbeats 4000000 in
theorem scX8_parts_114 {d : Nat} [zGh] (P : zP d) (j133 : zK d) (hj133 : zSim X_X8_parts 2 P 133 j133) : zSim X_X8_parts 2 P 114 (cX8_parts_114 P j133) := by
  unfold cX8_parts_114
  refine sm_lload (pc := 114) (n := 5) dX8_parts_114 ?_
  refine sm_lload (pc := 116) (n := 7) dX8_parts_116 ?_
  refine sm_ldiv (pc := 118) dX8_parts_118 ?_
  refine sm_goto (pc := 119) (tgt := 133) dX8_parts_119 (by decide) ?_
  exact hj133
noncomputable def bX8_parts_65 {d : Nat} (P : zP d) : zK d := (xald 0 (xald 0 (xgfR 24 2 (xild 1 (xaal (xild 2 (xild 4 (xcV 24 4 0 0 f_X8_timesFactorial (xlst 5 (xlld 5 (xabsj (xald 0 (xgfR 24 6 (xgfI 23 2 (xi2l (xcS 2 0 0 f_X8_greatestDivisor (xlst 7 (xlld 7 (xpL 0 (xlcmp (xif0 t0eq (xpL 9223372036854775808 (xlret P)) (xild 3 (xpI 2 (xjoin (bX8_parts_133 P) (fun j133 => (xcmp tge (cX8_parts_122 P j133) (cX8_parts_114 P j133)))))))))))))))))))))))))))
set_option maxRecDepth 100000 in
set_option maxHeartbeats 4000000 in
theorem sbX8_parts_65 {d : Nat} [zGh] (P : zP d) : zSim X_X8_parts 2 P 65 (bX8_parts_65 P) := by
  unfold bX8_parts_65
  refine sm_aload_n (pc := 65) (n := 0) dX8_parts_65 rfl ?_
  refine sm_aload_n (pc := 66) (n := 0) dX8_parts_66 rfl ?_
  refine gf_X8_23 (pc := 67) rfl dX8_parts_67 ?_
  refine sm_iload_n (pc := 70) (n := 1) dX8_parts_70 rfl ?_
  refine sm_aaload (pc := 71) dX8_parts_71 ?_
  refine sm_iload_n (pc := 72) (n := 2) dX8_parts_72 rfl ?_
  refine sm_iload (pc := 73) (n := 4) dX8_parts_73 ?_
  refine sm_cV (pc := 75) (ci := 8) (n := 4) (mc := 0) (ms := 0) rfl m_X8_timesFactorial (cr_X8_256 (X := X_X8_parts) (fr := 2) (frc := 1) (pc := 75) (mc := 0) (ms := 0) rfl (by decide) dX8_parts_75) ?_
  refine sm_lstore (pc := 78) (n := 5) dX8_parts_78 ?_
  refine sm_lload (pc := 80) (n := 5) dX8_parts_80 ?_
  refine sm_mabsj (pc := 82) wd_859 wd_763 wd_6 wd_764 (by decide) dX8_parts_82 ?_
  refine sm_aload_n (pc := 85) (n := 0) dX8_parts_85 rfl ?_
  refine gf_X8_40 (pc := 86) rfl dX8_parts_86 ?_
  refine gf_X8_266 (pc := 89) rfl dX8_parts_89 ?_
  refine sm_i2l (pc := 92) dX8_parts_92 ?_
  refine sm_cS (pc := 93) (n := 2) (mc := 0) (ms := 0) m_X8_greatestDivisor (cr_X8_269 (X := X_X8_parts) (fr := 2) (frc := 1) (pc := 93) (mc := 0) (ms := 0) rfl (by decide) dX8_parts_93) ?_
  refine sm_lstore (pc := 96) (n := 7) dX8_parts_96 ?_
  refine sm_lload (pc := 98) (n := 7) dX8_parts_98 ?_
  refine sm_lconst (pc := 100) dX8_parts_100 zc_l_0 ?_
  refine sm_lcmp (pc := 101) dX8_parts_101 ?_
  refine sm_if_ne (pc := 102) (tgt := 109) dX8_parts_102 (by decide) ?_ ?_
  · skip
    refine sm_iload_n (pc := 109) (n := 3) dX8_parts_109 rfl ?_
    refine sm_iconst (pc := 110) dX8_parts_110 zc_i_2 ?_
    refine sm_join (pc := 111) (pc' := 133) (sbX8_parts_133 P) (fun j133 hj133 => ?_)
    refine sm_icmp_ge (pc := 111) (tgt := 122) dX8_parts_111 (by decide) ?_ ?_
    · skip
      exact scX8_parts_122 P j133 hj133
    · skip
      exact scX8_parts_114 P j133 hj133
  · skip
    refine sm_ldc2 (pc := 105) dX8_parts_105 wd_850 zc_cl_m9223372036854775808 ?_
    exact sm_lreturn (pc := 108) dX8_parts_108 rfl
noncomputable def bX8_parts_43 {d : Nat} (P : zP d) : zK d := (xist 4 (xild 4 (xjoin (bX8_parts_65 P) (fun j65 => (xif0 t0eq j65 (xald 0 (xgfR 24 7 (xild 2 (xcV 21 2 0 0 f_X5_isRegular (xif0 t0eq (xpL 9223372036854775808 (xlret P)) j65))))))))))
set_option maxRecDepth 100000 in
set_option maxHeartbeats 4000000 in
theorem sbX8_parts_43 {d : Nat} [zGh] (P : zP d) : zSim X_X8_parts 2 P 43 (bX8_parts_43 P) := by
  unfold bX8_parts_43
  refine sm_istore (pc := 43) (n := 4) dX8_parts_43 ?_
  refine sm_iload (pc := 45) (n := 4) dX8_parts_45 ?_
  refine sm_join (pc := 47) (pc' := 65) (sbX8_parts_65 P) (fun j65 hj65 => ?_)
  refine sm_if_eq (pc := 47) (tgt := 65) dX8_parts_47 (by decide) ?_ ?_
  · skip
    exact hj65
  · skip
    refine sm_aload_n (pc := 50) (n := 0) dX8_parts_50 rfl ?_
    refine gf_X8_47 (pc := 51) rfl dX8_parts_51 ?_
    refine sm_iload_n (pc := 54) (n := 2) dX8_parts_54 rfl ?_
    refine sm_cV (pc := 55) (ci := 5) (n := 2) (mc := 0) (ms := 0) rfl m_X5_isRegular (cr_X8_145 (X := X_X8_parts) (fr := 2) (frc := 1) (pc := 55) (mc := 0) (ms := 0) rfl (by decide) dX8_parts_55) ?_
    refine sm_if_ne (pc := 58) (tgt := 65) dX8_parts_58 (by decide) ?_ ?_
    · skip
      exact hj65
    · skip
      refine sm_ldc2 (pc := 61) dX8_parts_61 wd_850 zc_cl_m9223372036854775808 ?_
      exact sm_lreturn (pc := 64) dX8_parts_64 rfl
noncomputable def bX8_parts_38 {d : Nat} (P : zP d) (j43 : zK d) : zK d := (xpI 1 j43)
set_option maxRecDepth 100000 in
set_option maxHeartbeats 4000000 in
theorem sbX8_parts_38 {d : Nat} [zGh] (P : zP d) (j43 : zK d) (hj43 : zSim X_X8_parts 2 P 43 j43) : zSim X_X8_parts 2 P 38 (bX8_parts_38 P j43) := by
  unfold bX8_parts_38
  refine sm_iconst (pc := 38) dX8_parts_38 zc_i_1 ?_
  refine sm_goto (pc := 39) (tgt := 43) dX8_parts_39 (by decide) ?_
  exact hj43
noncomputable def b_X8_parts {d : Nat} (P : zP d) : zK d := (xild 1 (xcS 1 0 0 f_X8_isSlot (xjoin (bX8_parts_24 P) (fun j24 => (xif0 t0eq j24 (xald 0 (xild 2 (xcV 24 2 0 0 f_X8_isPartition (xif0 t0eq j24 (xild 3 (xif0 t0ge (xild 3 (xpI 3 (xcmp tle (xild 3 (xpI 1 (xjoin (bX8_parts_43 P) (fun j43 => (xjoin (bX8_parts_38 P j43) (fun j38 => (xcmp Nat.beq j38 (xild 3 (xpI 3 (xcmp Nat.beq j38 (xpI 0 j43))))))))))) j24))) j24)))))))))))
set_option maxRecDepth 100000 in
set_option maxHeartbeats 4000000 in
theorem s_X8_parts {d : Nat} [zGh] (P : zP d) : zSim X_X8_parts 2 P 0 (b_X8_parts P) := by
  unfold b_X8_parts
  refine sm_iload_n (pc := 0) (n := 1) dX8_parts_0 rfl ?_
  refine sm_cS (pc := 1) (n := 1) (mc := 0) (ms := 0) m_X8_isSlot (cr_X8_88 (X := X_X8_parts) (fr := 2) (frc := 1) (pc := 1) (mc := 0) (ms := 0) rfl (by decide) dX8_parts_1) ?_
  refine sm_join (pc := 4) (pc' := 24) (sbX8_parts_24 P) (fun j24 hj24 => ?_)
  refine sm_if_eq (pc := 4) (tgt := 24) dX8_parts_4 (by decide) ?_ ?_
  · skip
    exact hj24
  · skip
    refine sm_aload_n (pc := 7) (n := 0) dX8_parts_7 rfl ?_
    refine sm_iload_n (pc := 8) (n := 2) dX8_parts_8 rfl ?_
    refine sm_cV (pc := 9) (ci := 8) (n := 2) (mc := 0) (ms := 0) rfl m_X8_isPartition (cr_X8_126 (X := X_X8_parts) (fr := 2) (frc := 1) (pc := 9) (mc := 0) (ms := 0) rfl (by decide) dX8_parts_9) ?_
    refine sm_if_eq (pc := 12) (tgt := 24) dX8_parts_12 (by decide) ?_ ?_
    · skip
      exact hj24
    · skip
      refine sm_iload_n (pc := 15) (n := 3) dX8_parts_15 rfl ?_
      refine sm_if_lt (pc := 16) (tgt := 24) dX8_parts_16 (by decide) ?_ ?_
      · skip
        exact hj24
      · skip
        refine sm_iload_n (pc := 19) (n := 3) dX8_parts_19 rfl ?_
        refine sm_iconst (pc := 20) dX8_parts_20 zc_i_3 ?_
        refine sm_icmp_le (pc := 21) (tgt := 28) dX8_parts_21 (by decide) ?_ ?_
        · skip
          refine sm_iload_n (pc := 28) (n := 3) dX8_parts_28 rfl ?_
          refine sm_iconst (pc := 29) dX8_parts_29 zc_i_1 ?_
          refine sm_join (pc := 30) (pc' := 43) (sbX8_parts_43 P) (fun j43 hj43 => ?_)
          refine sm_join (pc := 30) (pc' := 38) (sbX8_parts_38 P j43 hj43) (fun j38 hj38 => ?_)
          refine sm_icmp_eq (pc := 30) (tgt := 38) dX8_parts_30 (by decide) ?_ ?_
          · skip
            exact hj38
          · skip
            refine sm_iload_n (pc := 33) (n := 3) dX8_parts_33 rfl ?_
            refine sm_iconst (pc := 34) dX8_parts_34 zc_i_3 ?_
            refine sm_icmp_ne (pc := 35) (tgt := 42) dX8_parts_35 (by decide) ?_ ?_
            · skip
              refine sm_iconst (pc := 42) dX8_parts_42 zc_i_0 ?_
              exact hj43
            · skip
              exact hj38
        · skip
          exact hj24
noncomputable def f_X8_parts {d : Nat} : List zV → zH d → zP d → Bool := zfn 9 b_X8_parts
theorem m_X8_parts {d : Nat} : zMet (d := d) X_X8_parts yX8_parts 2 f_X8_parts := zmet_mk (X := X_X8_parts) (by decide) rfl rfl s_X8_parts

abbrev X_X8_inner : zM := (RX8, cX8_inner, 6, (some .long), "inner")
noncomputable def bX8_inner_14 {d : Nat} (P : zP d) : zK d := (xpL 18446744073709551615 (xlret P))
set_option maxRecDepth 100000 in
set_option maxHeartbeats 4000000 in
theorem sbX8_inner_14 {d : Nat} [zGh] (P : zP d) : zSim X_X8_inner 2 P 14 (bX8_inner_14 P) := by
  unfold bX8_inner_14
  refine sm_ldc2 (pc := 14) dX8_inner_14 wd_865 zc_cl_m1 ?_
  exact sm_lreturn (pc := 17) dX8_inner_17 rfl
noncomputable def cX8_inner_65 {d : Nat} (P : zP d) (r23 : zK d) : zK d := (xlal (xbinj zmulj (xbinj zaddj (xlst 3 (xinc 5 1 r23)))))
set_option maxRecDepth 100000 in
set_option maxHeartbeats 4000000 in
theorem scX8_inner_65 {d : Nat} [zGh] (P : zP d) (r23 : zK d) (hr23 : zSim X_X8_inner 2 P 23 r23) : zSim X_X8_inner 2 P 65 (cX8_inner_65 P r23) := by
  unfold cX8_inner_65
  refine sm_laload (pc := 65) dX8_inner_65 ?_
  refine sm_lmul (pc := 66) dX8_inner_66 ?_
  refine sm_ladd (pc := 67) dX8_inner_67 ?_
  refine sm_lstore_n (pc := 68) (n := 3) dX8_inner_68 rfl ?_
  refine sm_iinc (pc := 69) (n := 5) dX8_inner_69 zc_i_1 ?_
  refine sm_goto (pc := 72) (tgt := 23) dX8_inner_72 (by decide) ?_
  exact hr23
noncomputable def lX8_inner_23 {d : Nat} (P : zP d) (r23 : zK d) : zK d := (xild 5 (xald 0 (xgfR 24 6 (xgfI 23 1 (xcmp tge (xlld 3 (xlret P)) (xlld 3 (xald 0 (xgfR 24 6 (xgfR 23 5 (xild 5 (xald1 0 (xi2l (xald 0 (xgfR 24 2 (xild 1 (xaal (xild 5 (xlal (xbinj zmulj (xald 0 (xgfR 24 2 (xild 2 (xaal (xild 5 (cX8_inner_65 P r23)))))))))))))))))))))))))
set_option maxRecDepth 100000 in
set_option maxHeartbeats 4000000 in
theorem slX8_inner_23 {d : Nat} [zGh] (P : zP d) (r23 : zK d) (hr23 : zSim X_X8_inner 2 P 23 r23) : zSim X_X8_inner 2 P 23 (lX8_inner_23 P r23) := by
  unfold lX8_inner_23
  refine sm_iload (pc := 23) (n := 5) dX8_inner_23 ?_
  refine sm_aload_n (pc := 25) (n := 0) dX8_inner_25 rfl ?_
  refine gf_X8_40 (pc := 26) rfl dX8_inner_26 ?_
  refine gf_X8_74 (pc := 29) rfl dX8_inner_29 ?_
  refine sm_icmp_ge (pc := 32) (tgt := 75) dX8_inner_32 (by decide) ?_ ?_
  · skip
    refine sm_lload_n (pc := 75) (n := 3) dX8_inner_75 rfl ?_
    exact sm_lreturn (pc := 76) dX8_inner_76 rfl
  · skip
    refine sm_lload_n (pc := 35) (n := 3) dX8_inner_35 rfl ?_
    refine sm_aload_n (pc := 36) (n := 0) dX8_inner_36 rfl ?_
    refine gf_X8_40 (pc := 37) rfl dX8_inner_37 ?_
    refine gf_X8_193 (pc := 40) rfl dX8_inner_40 ?_
    refine sm_iload (pc := 43) (n := 5) dX8_inner_43 ?_
    refine sm_iaload (pc := 45) dX8_inner_45 ?_
    refine sm_i2l (pc := 46) dX8_inner_46 ?_
    refine sm_aload_n (pc := 47) (n := 0) dX8_inner_47 rfl ?_
    refine gf_X8_23 (pc := 48) rfl dX8_inner_48 ?_
    refine sm_iload_n (pc := 51) (n := 1) dX8_inner_51 rfl ?_
    refine sm_aaload (pc := 52) dX8_inner_52 ?_
    refine sm_iload (pc := 53) (n := 5) dX8_inner_53 ?_
    refine sm_laload (pc := 55) dX8_inner_55 ?_
    refine sm_lmul (pc := 56) dX8_inner_56 ?_
    refine sm_aload_n (pc := 57) (n := 0) dX8_inner_57 rfl ?_
    refine gf_X8_23 (pc := 58) rfl dX8_inner_58 ?_
    refine sm_iload_n (pc := 61) (n := 2) dX8_inner_61 rfl ?_
    refine sm_aaload (pc := 62) dX8_inner_62 ?_
    refine sm_iload (pc := 63) (n := 5) dX8_inner_63 ?_
    exact scX8_inner_65 P r23 hr23
noncomputable def b_X8_inner {d : Nat} (P : zP d) : zK d := (xild 1 (xcS 1 0 0 f_X8_isSlot (xjoin (bX8_inner_14 P) (fun j14 => (xif0 t0eq j14 (xild 2 (xcS 1 0 0 f_X8_isSlot (xif0 t0eq j14 (xpL 0 (xlst 3 (xpI 0 (xist 5 (xloop (fun r23 => (lX8_inner_23 P r23)) 100000)))))))))))))
set_option maxRecDepth 100000 in
set_option maxHeartbeats 4000000 in
theorem s_X8_inner {d : Nat} [zGh] (P : zP d) : zSim X_X8_inner 2 P 0 (b_X8_inner P) := by
  unfold b_X8_inner
  refine sm_iload_n (pc := 0) (n := 1) dX8_inner_0 rfl ?_
  refine sm_cS (pc := 1) (n := 1) (mc := 0) (ms := 0) m_X8_isSlot (cr_X8_88 (X := X_X8_inner) (fr := 2) (frc := 1) (pc := 1) (mc := 0) (ms := 0) rfl (by decide) dX8_inner_1) ?_
  refine sm_join (pc := 4) (pc' := 14) (sbX8_inner_14 P) (fun j14 hj14 => ?_)
  refine sm_if_eq (pc := 4) (tgt := 14) dX8_inner_4 (by decide) ?_ ?_
  · skip
    exact hj14
  · skip
    refine sm_iload_n (pc := 7) (n := 2) dX8_inner_7 rfl ?_
    refine sm_cS (pc := 8) (n := 1) (mc := 0) (ms := 0) m_X8_isSlot (cr_X8_88 (X := X_X8_inner) (fr := 2) (frc := 1) (pc := 8) (mc := 0) (ms := 0) rfl (by decide) dX8_inner_8) ?_
    refine sm_if_ne (pc := 11) (tgt := 18) dX8_inner_11 (by decide) ?_ ?_
    · skip
      refine sm_lconst (pc := 18) dX8_inner_18 zc_l_0 ?_
      refine sm_lstore_n (pc := 19) (n := 3) dX8_inner_19 rfl ?_
      refine sm_iconst (pc := 20) dX8_inner_20 zc_i_0 ?_
      refine sm_istore (pc := 21) (n := 5) dX8_inner_21 ?_
      exact sm_loop (fun r23 hr23 => slX8_inner_23 P r23 hr23) _
    · skip
      exact hj14
noncomputable def f_X8_inner {d : Nat} : List zV → zH d → zP d → Bool := zfn 6 b_X8_inner
theorem m_X8_inner {d : Nat} : zMet (d := d) X_X8_inner yX8_inner 2 f_X8_inner := zmet_mk (X := X_X8_inner) (by decide) rfl rfl s_X8_inner

abbrev X_X8_kind : zM := (RX8, cX8_kind, 4, (some .int), "kind")
noncomputable def bX8_kind_105 {d : Nat} (P : zP d) : zK d := (xpI 4294967295 (xiret P))
set_option maxRecDepth 100000 in
set_option maxHeartbeats 4000000 in
theorem sbX8_kind_105 {d : Nat} [zGh] (P : zP d) : zSim X_X8_kind 3 P 105 (bX8_kind_105 P) := by
  unfold bX8_kind_105
  refine sm_iconst (pc := 105) dX8_kind_105 zc_i_m1 ?_
  exact sm_ireturn (pc := 106) dX8_kind_106 rfl
noncomputable def bX8_kind_52 {d : Nat} (P : zP d) : zK d := (xald 0 (xald 3 (xcV 24 2 0 0 f_X8_isZeroOffRegular (xcS 1 0 0 f_X8_bit (xiret P)))))
set_option maxRecDepth 100000 in
set_option maxHeartbeats 4000000 in
theorem sbX8_kind_52 {d : Nat} [zGh] (P : zP d) : zSim X_X8_kind 3 P 52 (bX8_kind_52 P) := by
  unfold bX8_kind_52
  refine sm_aload_n (pc := 52) (n := 0) dX8_kind_52 rfl ?_
  refine sm_aload_n (pc := 53) (n := 3) dX8_kind_53 rfl ?_
  refine sm_cV (pc := 54) (ci := 8) (n := 2) (mc := 0) (ms := 0) rfl m_X8_isZeroOffRegular (cr_X8_275 (X := X_X8_kind) (fr := 3) (frc := 1) (pc := 54) (mc := 0) (ms := 0) rfl (by decide) dX8_kind_54) ?_
  refine sm_cS (pc := 57) (n := 1) (mc := 0) (ms := 0) m_X8_bit (cr_X8_148 (X := X_X8_kind) (fr := 3) (frc := 1) (pc := 57) (mc := 0) (ms := 0) rfl (by decide) dX8_kind_57) ?_
  exact sm_ireturn (pc := 60) dX8_kind_60 rfl
noncomputable def bX8_kind_61 {d : Nat} (P : zP d) : zK d := (xald 0 (xald 3 (xpI 0 (xpI 0 (xcV 24 4 0 0 f_X8_isWhole (xcS 1 0 0 f_X8_bit (xiret P)))))))
set_option maxRecDepth 100000 in
set_option maxHeartbeats 4000000 in
theorem sbX8_kind_61 {d : Nat} [zGh] (P : zP d) : zSim X_X8_kind 3 P 61 (bX8_kind_61 P) := by
  unfold bX8_kind_61
  refine sm_aload_n (pc := 61) (n := 0) dX8_kind_61 rfl ?_
  refine sm_aload_n (pc := 62) (n := 3) dX8_kind_62 rfl ?_
  refine sm_iconst (pc := 63) dX8_kind_63 zc_i_0 ?_
  refine sm_iconst (pc := 64) dX8_kind_64 zc_i_0 ?_
  refine sm_cV (pc := 65) (ci := 8) (n := 4) (mc := 0) (ms := 0) rfl m_X8_isWhole (cr_X8_279 (X := X_X8_kind) (fr := 3) (frc := 2) (pc := 65) (mc := 0) (ms := 0) rfl (by decide) dX8_kind_65) ?_
  refine sm_cS (pc := 68) (n := 1) (mc := 0) (ms := 0) m_X8_bit (cr_X8_148 (X := X_X8_kind) (fr := 3) (frc := 1) (pc := 68) (mc := 0) (ms := 0) rfl (by decide) dX8_kind_68) ?_
  exact sm_ireturn (pc := 71) dX8_kind_71 rfl
noncomputable def bX8_kind_72 {d : Nat} (P : zP d) : zK d := (xald 0 (xald 3 (xpI 0 (xpI 1 (xcV 24 4 0 0 f_X8_isWhole (xcS 1 0 0 f_X8_bit (xiret P)))))))
set_option maxRecDepth 100000 in
set_option maxHeartbeats 4000000 in
theorem sbX8_kind_72 {d : Nat} [zGh] (P : zP d) : zSim X_X8_kind 3 P 72 (bX8_kind_72 P) := by
  unfold bX8_kind_72
  refine sm_aload_n (pc := 72) (n := 0) dX8_kind_72 rfl ?_
  refine sm_aload_n (pc := 73) (n := 3) dX8_kind_73 rfl ?_
  refine sm_iconst (pc := 74) dX8_kind_74 zc_i_0 ?_
  refine sm_iconst (pc := 75) dX8_kind_75 zc_i_1 ?_
  refine sm_cV (pc := 76) (ci := 8) (n := 4) (mc := 0) (ms := 0) rfl m_X8_isWhole (cr_X8_279 (X := X_X8_kind) (fr := 3) (frc := 2) (pc := 76) (mc := 0) (ms := 0) rfl (by decide) dX8_kind_76) ?_
  refine sm_cS (pc := 79) (n := 1) (mc := 0) (ms := 0) m_X8_bit (cr_X8_148 (X := X_X8_kind) (fr := 3) (frc := 1) (pc := 79) (mc := 0) (ms := 0) rfl (by decide) dX8_kind_79) ?_
  exact sm_ireturn (pc := 82) dX8_kind_82 rfl
noncomputable def bX8_kind_83 {d : Nat} (P : zP d) : zK d := (xald 0 (xald 3 (xpI 1 (xpI 0 (xcV 24 4 0 0 f_X8_isWhole (xcS 1 0 0 f_X8_bit (xiret P)))))))
set_option maxRecDepth 100000 in
set_option maxHeartbeats 4000000 in
theorem sbX8_kind_83 {d : Nat} [zGh] (P : zP d) : zSim X_X8_kind 3 P 83 (bX8_kind_83 P) := by
  unfold bX8_kind_83
  refine sm_aload_n (pc := 83) (n := 0) dX8_kind_83 rfl ?_
  refine sm_aload_n (pc := 84) (n := 3) dX8_kind_84 rfl ?_
  refine sm_iconst (pc := 85) dX8_kind_85 zc_i_1 ?_
  refine sm_iconst (pc := 86) dX8_kind_86 zc_i_0 ?_
  refine sm_cV (pc := 87) (ci := 8) (n := 4) (mc := 0) (ms := 0) rfl m_X8_isWhole (cr_X8_279 (X := X_X8_kind) (fr := 3) (frc := 2) (pc := 87) (mc := 0) (ms := 0) rfl (by decide) dX8_kind_87) ?_
  refine sm_cS (pc := 90) (n := 1) (mc := 0) (ms := 0) m_X8_bit (cr_X8_148 (X := X_X8_kind) (fr := 3) (frc := 1) (pc := 90) (mc := 0) (ms := 0) rfl (by decide) dX8_kind_90) ?_
  exact sm_ireturn (pc := 93) dX8_kind_93 rfl
noncomputable def bX8_kind_94 {d : Nat} (P : zP d) : zK d := (xald 0 (xald 3 (xpI 1 (xpI 1 (xcV 24 4 0 0 f_X8_isWhole (xcS 1 0 0 f_X8_bit (xiret P)))))))
set_option maxRecDepth 100000 in
set_option maxHeartbeats 4000000 in
theorem sbX8_kind_94 {d : Nat} [zGh] (P : zP d) : zSim X_X8_kind 3 P 94 (bX8_kind_94 P) := by
  unfold bX8_kind_94
  refine sm_aload_n (pc := 94) (n := 0) dX8_kind_94 rfl ?_
  refine sm_aload_n (pc := 95) (n := 3) dX8_kind_95 rfl ?_
  refine sm_iconst (pc := 96) dX8_kind_96 zc_i_1 ?_
  refine sm_iconst (pc := 97) dX8_kind_97 zc_i_1 ?_
  refine sm_cV (pc := 98) (ci := 8) (n := 4) (mc := 0) (ms := 0) rfl m_X8_isWhole (cr_X8_279 (X := X_X8_kind) (fr := 3) (frc := 2) (pc := 98) (mc := 0) (ms := 0) rfl (by decide) dX8_kind_98) ?_
  refine sm_cS (pc := 101) (n := 1) (mc := 0) (ms := 0) m_X8_bit (cr_X8_148 (X := X_X8_kind) (fr := 3) (frc := 1) (pc := 101) (mc := 0) (ms := 0) rfl (by decide) dX8_kind_101) ?_
  exact sm_ireturn (pc := 104) dX8_kind_104 rfl
noncomputable def b_X8_kind {d : Nat} (P : zP d) : zK d := (xild 1 (xcS 1 0 0 f_X8_isSlot (xif0 t0eq (xpI 4294967295 (xiret P)) (xald 0 (xgfR 24 2 (xild 1 (xaal (xast 3 (xild 2 (xtsw [(bX8_kind_52 P), (bX8_kind_61 P), (bX8_kind_72 P), (bX8_kind_83 P), (bX8_kind_94 P)] (bX8_kind_105 P)))))))))))
set_option maxRecDepth 100000 in
set_option maxHeartbeats 4000000 in
theorem s_X8_kind {d : Nat} [zGh] (P : zP d) : zSim X_X8_kind 3 P 0 (b_X8_kind P) := by
  unfold b_X8_kind
  refine sm_iload_n (pc := 0) (n := 1) dX8_kind_0 rfl ?_
  refine sm_cS (pc := 1) (n := 1) (mc := 0) (ms := 0) m_X8_isSlot (cr_X8_88 (X := X_X8_kind) (fr := 3) (frc := 1) (pc := 1) (mc := 0) (ms := 0) rfl (by decide) dX8_kind_1) ?_
  refine sm_if_ne (pc := 4) (tgt := 9) dX8_kind_4 (by decide) ?_ ?_
  · skip
    refine sm_aload_n (pc := 9) (n := 0) dX8_kind_9 rfl ?_
    refine gf_X8_23 (pc := 10) rfl dX8_kind_10 ?_
    refine sm_iload_n (pc := 13) (n := 1) dX8_kind_13 rfl ?_
    refine sm_aaload (pc := 14) dX8_kind_14 ?_
    refine sm_astore_n (pc := 15) (n := 3) dX8_kind_15 rfl ?_
    refine sm_iload_n (pc := 16) (n := 2) dX8_kind_16 rfl ?_
    exact sm_tsw3 (pc := 17) (n := 4) (tdf := 105) [52, 61, 72, 83, 94] rfl (by decide) dX8_kind_17 rfl (by decide +kernel) (by decide) (sbX8_kind_105 P) ⟨sbX8_kind_52 P, sbX8_kind_61 P, sbX8_kind_72 P, sbX8_kind_83 P, sbX8_kind_94 P, trivial⟩
  · skip
    refine sm_iconst (pc := 7) dX8_kind_7 zc_i_m1 ?_
    exact sm_ireturn (pc := 8) dX8_kind_8 rfl
noncomputable def f_X8_kind {d : Nat} : List zV → zH d → zP d → Bool := zfn 4 b_X8_kind
theorem m_X8_kind {d : Nat} : zMet (d := d) X_X8_kind yX8_kind 3 f_X8_kind := zmet_mk (X := X_X8_kind) (by decide) rfl rfl s_X8_kind

abbrev X_X8_cut : zM := (RX8, cX8_cut, 7, (some .int), "cut")
noncomputable def bX8_cut_32 {d : Nat} (P : zP d) : zK d := (xpI 4294967295 (xiret P))
set_option maxRecDepth 100000 in
set_option maxHeartbeats 4000000 in
theorem sbX8_cut_32 {d : Nat} [zGh] (P : zP d) : zSim X_X8_cut 2 P 32 (bX8_cut_32 P) := by
  unfold bX8_cut_32
  refine sm_iconst (pc := 32) dX8_cut_32 zc_i_m1 ?_
  exact sm_ireturn (pc := 33) dX8_cut_33 rfl
noncomputable def bX8_cut_128 {d : Nat} (P : zP d) (r45 : zK d) : zK d := (xinc 4 1 r45)
set_option maxRecDepth 100000 in
set_option maxHeartbeats 4000000 in
theorem sbX8_cut_128 {d : Nat} [zGh] (P : zP d) (r45 : zK d) (hr45 : zSim X_X8_cut 2 P 45 r45) : zSim X_X8_cut 2 P 128 (bX8_cut_128 P r45) := by
  unfold bX8_cut_128
  refine sm_iinc (pc := 128) (n := 4) dX8_cut_128 zc_i_1 ?_
  refine sm_goto (pc := 131) (tgt := 45) dX8_cut_131 (by decide) ?_
  exact hr45
noncomputable def cX8_cut_95 {d : Nat} (P : zP d) (j128 : zK d) : zK d := (xcV 24 2 0 0 f_X8_isWholeTimes (xif0 t0eq (xpI 4294967295 (xiret P)) (xald 0 (xlld 5 (xald 0 (xgfR 24 6 (xgfI 23 2 (xi2l (xbinjN zdivj (xald 0 (xgfR 24 6 (xgfR 23 12 (xild 4 (xaal (xcV 24 3 0 0 f_X8_addTimes j128)))))))))))))))
set_option maxRecDepth 100000 in
set_option maxHeartbeats 4000000 in
theorem scX8_cut_95 {d : Nat} [zGh] (P : zP d) (j128 : zK d) (hj128 : zSim X_X8_cut 2 P 128 j128) : zSim X_X8_cut 2 P 95 (cX8_cut_95 P j128) := by
  unfold cX8_cut_95
  refine sm_cV (pc := 95) (ci := 8) (n := 2) (mc := 0) (ms := 0) rfl m_X8_isWholeTimes (cr_X8_283 (X := X_X8_cut) (fr := 2) (frc := 1) (pc := 95) (mc := 0) (ms := 0) rfl (by decide) dX8_cut_95) ?_
  refine sm_if_ne (pc := 98) (tgt := 103) dX8_cut_98 (by decide) ?_ ?_
  · skip
    refine sm_aload_n (pc := 103) (n := 0) dX8_cut_103 rfl ?_
    refine sm_lload (pc := 104) (n := 5) dX8_cut_104 ?_
    refine sm_aload_n (pc := 106) (n := 0) dX8_cut_106 rfl ?_
    refine gf_X8_40 (pc := 107) rfl dX8_cut_107 ?_
    refine gf_X8_266 (pc := 110) rfl dX8_cut_110 ?_
    refine sm_i2l (pc := 113) dX8_cut_113 ?_
    refine sm_ldiv (pc := 114) dX8_cut_114 ?_
    refine sm_aload_n (pc := 115) (n := 0) dX8_cut_115 rfl ?_
    refine gf_X8_40 (pc := 116) rfl dX8_cut_116 ?_
    refine gf_X8_209 (pc := 119) rfl dX8_cut_119 ?_
    refine sm_iload (pc := 122) (n := 4) dX8_cut_122 ?_
    refine sm_aaload (pc := 124) dX8_cut_124 ?_
    refine sm_cV (pc := 125) (ci := 8) (n := 3) (mc := 0) (ms := 0) rfl m_X8_addTimes (cr_X8_287 (X := X_X8_cut) (fr := 2) (frc := 1) (pc := 125) (mc := 0) (ms := 0) rfl (by decide) dX8_cut_125) ?_
    exact hj128
  · skip
    refine sm_iconst (pc := 101) dX8_cut_101 zc_i_m1 ?_
    exact sm_ireturn (pc := 102) dX8_cut_102 rfl
noncomputable def lX8_cut_45 {d : Nat} (P : zP d) (r45 : zK d) : zK d := (xild 4 (xald 0 (xgfR 24 6 (xgfI 23 1 (xcmp tge (xald 0 (xgfR 24 3 (xpI 0 (xald 0 (xgfR 24 2 (xild 3 (xaal (xpI 0 (xpI 11 (xcpy 2 72 (xpI 0 (xiret P)))))))))))) (xald 0 (xgfR 24 7 (xgfR 21 10 (xgfR 16 2 (xild 4 (xald1 0 (xild 2 (xjoin (bX8_cut_128 P r45) (fun j128 => (xcmp Nat.beq (xald 0 (xald 0 (xgfR 24 2 (xild 1 (xaal (xild 4 (xpI 0 (xcV 24 4 0 0 f_X8_timesFactorial (xlst 5 (xald 0 (xlld 5 (cX8_cut_95 P j128)))))))))))) j128)))))))))))))))
set_option maxRecDepth 100000 in
set_option maxHeartbeats 4000000 in
theorem slX8_cut_45 {d : Nat} [zGh] (P : zP d) (r45 : zK d) (hr45 : zSim X_X8_cut 2 P 45 r45) : zSim X_X8_cut 2 P 45 (lX8_cut_45 P r45) := by
  unfold lX8_cut_45
  refine sm_iload (pc := 45) (n := 4) dX8_cut_45 ?_
  refine sm_aload_n (pc := 47) (n := 0) dX8_cut_47 rfl ?_
  refine gf_X8_40 (pc := 48) rfl dX8_cut_48 ?_
  refine gf_X8_74 (pc := 51) rfl dX8_cut_51 ?_
  refine sm_icmp_ge (pc := 54) (tgt := 134) dX8_cut_54 (by decide) ?_ ?_
  · skip
    refine sm_aload_n (pc := 134) (n := 0) dX8_cut_134 rfl ?_
    refine gf_X8_26 (pc := 135) rfl dX8_cut_135 ?_
    refine sm_iconst (pc := 138) dX8_cut_138 zc_i_0 ?_
    refine sm_aload_n (pc := 139) (n := 0) dX8_cut_139 rfl ?_
    refine gf_X8_23 (pc := 140) rfl dX8_cut_140 ?_
    refine sm_iload_n (pc := 143) (n := 3) dX8_cut_143 rfl ?_
    refine sm_aaload (pc := 144) dX8_cut_144 ?_
    refine sm_iconst (pc := 145) dX8_cut_145 zc_i_0 ?_
    refine sm_bipush (pc := 146) dX8_cut_146 zc_b_11 ?_
    refine sm_copyJ (pc := 148) wd_771 wd_80 wd_79 wd_7 (by decide) dX8_cut_148 ?_
    refine sm_iconst (pc := 151) dX8_cut_151 zc_i_0 ?_
    exact sm_ireturn (pc := 152) dX8_cut_152 rfl
  · skip
    refine sm_aload_n (pc := 57) (n := 0) dX8_cut_57 rfl ?_
    refine gf_X8_47 (pc := 58) rfl dX8_cut_58 ?_
    refine gf_X8_152 (pc := 61) rfl dX8_cut_61 ?_
    refine gf_X8_161 (pc := 64) rfl dX8_cut_64 ?_
    refine sm_iload (pc := 67) (n := 4) dX8_cut_67 ?_
    refine sm_iaload (pc := 69) dX8_cut_69 ?_
    refine sm_iload_n (pc := 70) (n := 2) dX8_cut_70 rfl ?_
    refine sm_join (pc := 71) (pc' := 128) (sbX8_cut_128 P r45 hr45) (fun j128 hj128 => ?_)
    refine sm_icmp_eq (pc := 71) (tgt := 77) dX8_cut_71 (by decide) ?_ ?_
    · skip
      refine sm_aload_n (pc := 77) (n := 0) dX8_cut_77 rfl ?_
      refine sm_aload_n (pc := 78) (n := 0) dX8_cut_78 rfl ?_
      refine gf_X8_23 (pc := 79) rfl dX8_cut_79 ?_
      refine sm_iload_n (pc := 82) (n := 1) dX8_cut_82 rfl ?_
      refine sm_aaload (pc := 83) dX8_cut_83 ?_
      refine sm_iload (pc := 84) (n := 4) dX8_cut_84 ?_
      refine sm_iconst (pc := 86) dX8_cut_86 zc_i_0 ?_
      refine sm_cV (pc := 87) (ci := 8) (n := 4) (mc := 0) (ms := 0) rfl m_X8_timesFactorial (cr_X8_256 (X := X_X8_cut) (fr := 2) (frc := 1) (pc := 87) (mc := 0) (ms := 0) rfl (by decide) dX8_cut_87) ?_
      refine sm_lstore (pc := 90) (n := 5) dX8_cut_90 ?_
      refine sm_aload_n (pc := 92) (n := 0) dX8_cut_92 rfl ?_
      refine sm_lload (pc := 93) (n := 5) dX8_cut_93 ?_
      exact scX8_cut_95 P j128 hj128
    · skip
      refine sm_goto (pc := 74) (tgt := 128) dX8_cut_74 (by decide) ?_
      exact hj128
noncomputable def b_X8_cut {d : Nat} (P : zP d) : zK d := (xild 1 (xcS 1 0 0 f_X8_isSlot (xjoin (bX8_cut_32 P) (fun j32 => (xif0 t0eq j32 (xild 3 (xcS 1 0 0 f_X8_isSlot (xif0 t0eq j32 (xild 2 (xif0 t0ge (xild 2 (xald 0 (xgfR 24 7 (xgfR 21 10 (xgfI 16 3 (xcmp tge j32 (xald 0 (xgfR 24 3 (xpL 0 (xcS 2 0 0 f_J7_fill_d0a16 (xpI 0 (xist 4 (xloop (fun r45 => (lX8_cut_45 P r45)) 100000))))))))))))) j32))))))))))
set_option maxRecDepth 100000 in
set_option maxHeartbeats 4000000 in
theorem s_X8_cut {d : Nat} [zGh] (P : zP d) : zSim X_X8_cut 2 P 0 (b_X8_cut P) := by
  unfold b_X8_cut
  refine sm_iload_n (pc := 0) (n := 1) dX8_cut_0 rfl ?_
  refine sm_cS (pc := 1) (n := 1) (mc := 0) (ms := 0) m_X8_isSlot (cr_X8_88 (X := X_X8_cut) (fr := 2) (frc := 1) (pc := 1) (mc := 0) (ms := 0) rfl (by decide) dX8_cut_1) ?_
  refine sm_join (pc := 4) (pc' := 32) (sbX8_cut_32 P) (fun j32 hj32 => ?_)
  refine sm_if_eq (pc := 4) (tgt := 32) dX8_cut_4 (by decide) ?_ ?_
  · skip
    exact hj32
  · skip
    refine sm_iload_n (pc := 7) (n := 3) dX8_cut_7 rfl ?_
    refine sm_cS (pc := 8) (n := 1) (mc := 0) (ms := 0) m_X8_isSlot (cr_X8_88 (X := X_X8_cut) (fr := 2) (frc := 1) (pc := 8) (mc := 0) (ms := 0) rfl (by decide) dX8_cut_8) ?_
    refine sm_if_eq (pc := 11) (tgt := 32) dX8_cut_11 (by decide) ?_ ?_
    · skip
      exact hj32
    · skip
      refine sm_iload_n (pc := 14) (n := 2) dX8_cut_14 rfl ?_
      refine sm_if_lt (pc := 15) (tgt := 32) dX8_cut_15 (by decide) ?_ ?_
      · skip
        exact hj32
      · skip
        refine sm_iload_n (pc := 18) (n := 2) dX8_cut_18 rfl ?_
        refine sm_aload_n (pc := 19) (n := 0) dX8_cut_19 rfl ?_
        refine gf_X8_47 (pc := 20) rfl dX8_cut_20 ?_
        refine gf_X8_152 (pc := 23) rfl dX8_cut_23 ?_
        refine gf_X8_236 (pc := 26) rfl dX8_cut_26 ?_
        refine sm_icmp_lt (pc := 29) (tgt := 34) dX8_cut_29 (by decide) ?_ ?_
        · skip
          refine sm_aload_n (pc := 34) (n := 0) dX8_cut_34 rfl ?_
          refine gf_X8_26 (pc := 35) rfl dX8_cut_35 ?_
          refine sm_lconst (pc := 38) dX8_cut_38 zc_l_0 ?_
          refine sm_cS (pc := 39) (n := 2) (mc := 0) (ms := 0) m_J7_fill_d0a16 (cr_X8_68 (X := X_X8_cut) (fr := 2) (frc := 1) (pc := 39) (mc := 0) (ms := 0) rfl (by decide) dX8_cut_39) ?_
          refine sm_iconst (pc := 42) dX8_cut_42 zc_i_0 ?_
          refine sm_istore (pc := 43) (n := 4) dX8_cut_43 ?_
          exact sm_loop (fun r45 hr45 => slX8_cut_45 P r45 hr45) _
        · skip
          exact hj32
noncomputable def f_X8_cut {d : Nat} : List zV → zH d → zP d → Bool := zfn 7 b_X8_cut
theorem m_X8_cut {d : Nat} : zMet (d := d) X_X8_cut yX8_cut 2 f_X8_cut := zmet_mk (X := X_X8_cut) (by decide) rfl rfl s_X8_cut

abbrev X_X8_look : zM := (RX8, cX8_look, 2, (some .int), "look")
noncomputable def bX8_look_127 {d : Nat} (P : zP d) : zK d := (xpI 4294967295 (xiret P))
set_option maxRecDepth 100000 in
set_option maxHeartbeats 4000000 in
theorem sbX8_look_127 {d : Nat} [zGh] (P : zP d) : zSim X_X8_look 3 P 127 (bX8_look_127 P) := by
  unfold bX8_look_127
  refine sm_iconst (pc := 127) dX8_look_127 zc_i_m1 ?_
  exact sm_ireturn (pc := 128) dX8_look_128 rfl
noncomputable def bX8_look_52 {d : Nat} (P : zP d) : zK d := (xald 0 (xgfR 24 6 (xgfI 23 0 (xiret P))))
set_option maxRecDepth 100000 in
set_option maxHeartbeats 4000000 in
theorem sbX8_look_52 {d : Nat} [zGh] (P : zP d) : zSim X_X8_look 3 P 52 (bX8_look_52 P) := by
  unfold bX8_look_52
  refine sm_aload_n (pc := 52) (n := 0) dX8_look_52 rfl ?_
  refine gf_X8_40 (pc := 53) rfl dX8_look_53 ?_
  refine gf_X8_176 (pc := 56) rfl dX8_look_56 ?_
  exact sm_ireturn (pc := 59) dX8_look_59 rfl
noncomputable def bX8_look_60 {d : Nat} (P : zP d) : zK d := (xald 0 (xgfR 24 7 (xgfI 21 1 (xiret P))))
set_option maxRecDepth 100000 in
set_option maxHeartbeats 4000000 in
theorem sbX8_look_60 {d : Nat} [zGh] (P : zP d) : zSim X_X8_look 3 P 60 (bX8_look_60 P) := by
  unfold bX8_look_60
  refine sm_aload_n (pc := 60) (n := 0) dX8_look_60 rfl ?_
  refine gf_X8_47 (pc := 61) rfl dX8_look_61 ?_
  refine gf_X8_179 (pc := 64) rfl dX8_look_64 ?_
  exact sm_ireturn (pc := 67) dX8_look_67 rfl
noncomputable def bX8_look_68 {d : Nat} (P : zP d) : zK d := (xald 0 (xgfR 24 6 (xgfI 23 1 (xiret P))))
set_option maxRecDepth 100000 in
set_option maxHeartbeats 4000000 in
theorem sbX8_look_68 {d : Nat} [zGh] (P : zP d) : zSim X_X8_look 3 P 68 (bX8_look_68 P) := by
  unfold bX8_look_68
  refine sm_aload_n (pc := 68) (n := 0) dX8_look_68 rfl ?_
  refine gf_X8_40 (pc := 69) rfl dX8_look_69 ?_
  refine gf_X8_74 (pc := 72) rfl dX8_look_72 ?_
  exact sm_ireturn (pc := 75) dX8_look_75 rfl
noncomputable def bX8_look_76 {d : Nat} (P : zP d) : zK d := (xald 0 (xgfR 24 7 (xgfI 21 3 (xiret P))))
set_option maxRecDepth 100000 in
set_option maxHeartbeats 4000000 in
theorem sbX8_look_76 {d : Nat} [zGh] (P : zP d) : zSim X_X8_look 3 P 76 (bX8_look_76 P) := by
  unfold bX8_look_76
  refine sm_aload_n (pc := 76) (n := 0) dX8_look_76 rfl ?_
  refine gf_X8_47 (pc := 77) rfl dX8_look_77 ?_
  refine gf_X8_291 (pc := 80) rfl dX8_look_80 ?_
  exact sm_ireturn (pc := 83) dX8_look_83 rfl
noncomputable def bX8_look_84 {d : Nat} (P : zP d) : zK d := (xald 0 (xgfR 24 7 (xgfR 21 10 (xgfI 16 3 (xiret P)))))
set_option maxRecDepth 100000 in
set_option maxHeartbeats 4000000 in
theorem sbX8_look_84 {d : Nat} [zGh] (P : zP d) : zSim X_X8_look 3 P 84 (bX8_look_84 P) := by
  unfold bX8_look_84
  refine sm_aload_n (pc := 84) (n := 0) dX8_look_84 rfl ?_
  refine gf_X8_47 (pc := 85) rfl dX8_look_85 ?_
  refine gf_X8_152 (pc := 88) rfl dX8_look_88 ?_
  refine gf_X8_236 (pc := 91) rfl dX8_look_91 ?_
  exact sm_ireturn (pc := 94) dX8_look_94 rfl
noncomputable def bX8_look_95 {d : Nat} (P : zP d) : zK d := (xald 0 (xgfR 24 6 (xgfI 23 2 (xiret P))))
set_option maxRecDepth 100000 in
set_option maxHeartbeats 4000000 in
theorem sbX8_look_95 {d : Nat} [zGh] (P : zP d) : zSim X_X8_look 3 P 95 (bX8_look_95 P) := by
  unfold bX8_look_95
  refine sm_aload_n (pc := 95) (n := 0) dX8_look_95 rfl ?_
  refine gf_X8_40 (pc := 96) rfl dX8_look_96 ?_
  refine gf_X8_266 (pc := 99) rfl dX8_look_99 ?_
  exact sm_ireturn (pc := 102) dX8_look_102 rfl
noncomputable def bX8_look_103 {d : Nat} (P : zP d) : zK d := (xald 0 (xgfR 24 4 (xgfI 22 1 (xiret P))))
set_option maxRecDepth 100000 in
set_option maxHeartbeats 4000000 in
theorem sbX8_look_103 {d : Nat} [zGh] (P : zP d) : zSim X_X8_look 3 P 103 (bX8_look_103 P) := by
  unfold bX8_look_103
  refine sm_aload_n (pc := 103) (n := 0) dX8_look_103 rfl ?_
  refine gf_X8_33 (pc := 104) rfl dX8_look_104 ?_
  refine gf_X8_85 (pc := 107) rfl dX8_look_107 ?_
  exact sm_ireturn (pc := 110) dX8_look_110 rfl
noncomputable def bX8_look_111 {d : Nat} (P : zP d) : zK d := (xald 0 (xcV 24 1 0 0 f_X8_slotsInUse (xiret P)))
set_option maxRecDepth 100000 in
set_option maxHeartbeats 4000000 in
theorem sbX8_look_111 {d : Nat} [zGh] (P : zP d) : zSim X_X8_look 3 P 111 (bX8_look_111 P) := by
  unfold bX8_look_111
  refine sm_aload_n (pc := 111) (n := 0) dX8_look_111 rfl ?_
  refine sm_cV (pc := 112) (ci := 8) (n := 1) (mc := 0) (ms := 0) rfl m_X8_slotsInUse (cr_X8_294 (X := X_X8_look) (fr := 3) (frc := 1) (pc := 112) (mc := 0) (ms := 0) rfl (by decide) dX8_look_112) ?_
  exact sm_ireturn (pc := 115) dX8_look_115 rfl
noncomputable def bX8_look_116 {d : Nat} (P : zP d) : zK d := (xald 0 (xgfR 24 7 (xgfR 21 10 (xcV 16 1 0 0 f_X0_withoutDefect (xiret P)))))
set_option maxRecDepth 100000 in
set_option maxHeartbeats 4000000 in
theorem sbX8_look_116 {d : Nat} [zGh] (P : zP d) : zSim X_X8_look 3 P 116 (bX8_look_116 P) := by
  unfold bX8_look_116
  refine sm_aload_n (pc := 116) (n := 0) dX8_look_116 rfl ?_
  refine gf_X8_47 (pc := 117) rfl dX8_look_117 ?_
  refine gf_X8_152 (pc := 120) rfl dX8_look_120 ?_
  refine sm_cV (pc := 123) (ci := 0) (n := 1) (mc := 0) (ms := 0) rfl m_X0_withoutDefect (cr_X8_298 (X := X_X8_look) (fr := 3) (frc := 2) (pc := 123) (mc := 0) (ms := 0) rfl (by decide) dX8_look_123) ?_
  exact sm_ireturn (pc := 126) dX8_look_126 rfl
noncomputable def b_X8_look {d : Nat} (P : zP d) : zK d := (xild 1 (xtsw [(bX8_look_52 P), (bX8_look_60 P), (bX8_look_68 P), (bX8_look_76 P), (bX8_look_84 P), (bX8_look_95 P), (bX8_look_103 P), (bX8_look_111 P), (bX8_look_116 P)] (bX8_look_127 P)))
set_option maxRecDepth 100000 in
set_option maxHeartbeats 4000000 in
theorem s_X8_look {d : Nat} [zGh] (P : zP d) : zSim X_X8_look 3 P 0 (b_X8_look P) := by
  unfold b_X8_look
  refine sm_iload_n (pc := 0) (n := 1) dX8_look_0 rfl ?_
  exact sm_tsw3 (pc := 1) (n := 8) (tdf := 127) [52, 60, 68, 76, 84, 95, 103, 111, 116] rfl (by decide) dX8_look_1 rfl (by decide +kernel) (by decide) (sbX8_look_127 P) ⟨sbX8_look_52 P, sbX8_look_60 P, sbX8_look_68 P, sbX8_look_76 P, sbX8_look_84 P, sbX8_look_95 P, sbX8_look_103 P, sbX8_look_111 P, sbX8_look_116 P, trivial⟩
noncomputable def f_X8_look {d : Nat} : List zV → zH d → zP d → Bool := zfn 2 b_X8_look
theorem m_X8_look {d : Nat} : zMet (d := d) X_X8_look yX8_look 3 f_X8_look := zmet_mk (X := X_X8_look) (by decide) rfl rfl s_X8_look

