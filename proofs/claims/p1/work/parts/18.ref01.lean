/-! the reference, by program -/
abbrev X_X9_isIn : zM := (RX9, cX9_isIn, 6, (some .boolean), "isIn")
noncomputable def bX9_isIn_18 {d : Nat} (P : zP d) : zK d := (xzret P)
set_option maxRecDepth 100000 in
set_option maxHeartbeats 4000000 in
theorem sbX9_isIn_18 {d : Nat} (P : zP d) : zSim X_X9_isIn 1 P 18 (bX9_isIn_18 P) := by
  unfold bX9_isIn_18
  exact sm_zreturn (pc := 18) dX9_isIn_18 rfl
noncomputable def bX9_isIn_17 {d : Nat} (P : zP d) (j18 : zK d) : zK d := (xpI 0 j18)
set_option maxRecDepth 100000 in
set_option maxHeartbeats 4000000 in
theorem sbX9_isIn_17 {d : Nat} (P : zP d) (j18 : zK d) (hj18 : zSim X_X9_isIn 1 P 18 j18) : zSim X_X9_isIn 1 P 17 (bX9_isIn_17 P j18) := by
  unfold bX9_isIn_17
  refine sm_iconst (pc := 17) dX9_isIn_17 zc_i_0 ?_
  exact hj18
noncomputable def b_X9_isIn {d : Nat} (P : zP d) : zK d := (xlld 0 (xlld 2 (xlcmp (xjoin (bX9_isIn_18 P) (fun j18 => (xjoin (bX9_isIn_17 P j18) (fun j17 => (xif0 t0ge (xlld 0 (xlld 4 (xlcmp (xif0 t0le (xpI 1 j18) j17)))) j17))))))))
set_option maxRecDepth 100000 in
set_option maxHeartbeats 4000000 in
theorem s_X9_isIn {d : Nat} (P : zP d) : zSim X_X9_isIn 1 P 0 (b_X9_isIn P) := by
  unfold b_X9_isIn
  refine sm_lload_n (pc := 0) (n := 0) dX9_isIn_0 rfl ?_
  refine sm_lload_n (pc := 1) (n := 2) dX9_isIn_1 rfl ?_
  refine sm_lcmp (pc := 2) dX9_isIn_2 ?_
  refine sm_join (pc := 3) (pc' := 18) (sbX9_isIn_18 P) (fun j18 hj18 => ?_)
  refine sm_join (pc := 3) (pc' := 17) (sbX9_isIn_17 P j18 hj18) (fun j17 hj17 => ?_)
  refine sm_if_lt (pc := 3) (tgt := 17) dX9_isIn_3 (by decide) ?_ ?_
  · skip
    exact hj17
  · skip
    refine sm_lload_n (pc := 6) (n := 0) dX9_isIn_6 rfl ?_
    refine sm_lload (pc := 7) (n := 4) dX9_isIn_7 ?_
    refine sm_lcmp (pc := 9) dX9_isIn_9 ?_
    refine sm_if_gt (pc := 10) (tgt := 17) dX9_isIn_10 (by decide) ?_ ?_
    · skip
      exact hj17
    · skip
      refine sm_iconst (pc := 13) dX9_isIn_13 zc_i_1 ?_
      refine sm_goto (pc := 14) (tgt := 18) dX9_isIn_14 (by decide) ?_
      exact hj18
noncomputable def f_X9_isIn {d : Nat} : List zV → zH d → zP d → Bool := zfn 6 b_X9_isIn
theorem m_X9_isIn {d : Nat} : zMet (d := d) X_X9_isIn yX9_isIn 1 f_X9_isIn := zmet_mk (X := X_X9_isIn) (by decide) rfl rfl s_X9_isIn

abbrev X_X9_one : zM := (RX9, cX9_one, 1, (some .int), "one")
noncomputable def bX9_one_9 {d : Nat} (P : zP d) : zK d := (xiret P)
set_option maxRecDepth 100000 in
set_option maxHeartbeats 4000000 in
theorem sbX9_one_9 {d : Nat} (P : zP d) : zSim X_X9_one 1 P 9 (bX9_one_9 P) := by
  unfold bX9_one_9
  exact sm_ireturn (pc := 9) dX9_one_9 rfl
noncomputable def b_X9_one {d : Nat} (P : zP d) : zK d := (xild 0 (xjoin (bX9_one_9 P) (fun j9 => (xif0 t0eq (xpI 0 j9) (xpI 1 j9)))))
set_option maxRecDepth 100000 in
set_option maxHeartbeats 4000000 in
theorem s_X9_one {d : Nat} (P : zP d) : zSim X_X9_one 1 P 0 (b_X9_one P) := by
  unfold b_X9_one
  refine sm_iload_n (pc := 0) (n := 0) dX9_one_0 rfl ?_
  refine sm_join (pc := 1) (pc' := 9) (sbX9_one_9 P) (fun j9 hj9 => ?_)
  refine sm_if_eq (pc := 1) (tgt := 8) dX9_one_1 (by decide) ?_ ?_
  · skip
    refine sm_iconst (pc := 8) dX9_one_8 zc_i_0 ?_
    exact hj9
  · skip
    refine sm_iconst (pc := 4) dX9_one_4 zc_i_1 ?_
    refine sm_goto (pc := 5) (tgt := 9) dX9_one_5 (by decide) ?_
    exact hj9
noncomputable def f_X9_one {d : Nat} : List zV → zH d → zP d → Bool := zfn 1 b_X9_one
theorem m_X9_one {d : Nat} : zMet (d := d) X_X9_one yX9_one 1 f_X9_one := zmet_mk (X := X_X9_one) (by decide) rfl rfl s_X9_one

abbrev X_X9_bits : zM := (RX9, cX9_bits, 3, (some .int), "bits")
noncomputable def lX9_bits_4 {d : Nat} (P : zP d) (r4 : zK d) : zK d := (xild 2 (xif0 t0eq (xild 1 (xiret P)) (xinc 1 1 (xild 2 (xild 2 (xpI 1 (xbin zsub (xbin zand (xist 2 r4)))))))))
set_option maxRecDepth 100000 in
set_option maxHeartbeats 4000000 in
theorem slX9_bits_4 {d : Nat} (P : zP d) (r4 : zK d) (hr4 : zSim X_X9_bits 1 P 4 r4) : zSim X_X9_bits 1 P 4 (lX9_bits_4 P r4) := by
  unfold lX9_bits_4
  refine sm_iload_n (pc := 4) (n := 2) dX9_bits_4 rfl ?_
  refine sm_if_eq (pc := 5) (tgt := 20) dX9_bits_5 (by decide) ?_ ?_
  · skip
    refine sm_iload_n (pc := 20) (n := 1) dX9_bits_20 rfl ?_
    exact sm_ireturn (pc := 21) dX9_bits_21 rfl
  · skip
    refine sm_iinc (pc := 8) (n := 1) dX9_bits_8 zc_i_1 ?_
    refine sm_iload_n (pc := 11) (n := 2) dX9_bits_11 rfl ?_
    refine sm_iload_n (pc := 12) (n := 2) dX9_bits_12 rfl ?_
    refine sm_iconst (pc := 13) dX9_bits_13 zc_i_1 ?_
    refine sm_isub (pc := 14) dX9_bits_14 ?_
    refine sm_iand (pc := 15) dX9_bits_15 ?_
    refine sm_istore_n (pc := 16) (n := 2) dX9_bits_16 rfl ?_
    refine sm_goto (pc := 17) (tgt := 4) dX9_bits_17 (by decide) ?_
    exact hr4
noncomputable def b_X9_bits {d : Nat} (P : zP d) : zK d := (xpI 0 (xist 1 (xild 0 (xist 2 (xloop (fun r4 => (lX9_bits_4 P r4)) 100000)))))
set_option maxRecDepth 100000 in
set_option maxHeartbeats 4000000 in
theorem s_X9_bits {d : Nat} (P : zP d) : zSim X_X9_bits 1 P 0 (b_X9_bits P) := by
  unfold b_X9_bits
  refine sm_iconst (pc := 0) dX9_bits_0 zc_i_0 ?_
  refine sm_istore_n (pc := 1) (n := 1) dX9_bits_1 rfl ?_
  refine sm_iload_n (pc := 2) (n := 0) dX9_bits_2 rfl ?_
  refine sm_istore_n (pc := 3) (n := 2) dX9_bits_3 rfl ?_
  exact sm_loop (fun r4 hr4 => slX9_bits_4 P r4 hr4) _
noncomputable def f_X9_bits {d : Nat} : List zV → zH d → zP d → Bool := zfn 3 b_X9_bits
theorem m_X9_bits {d : Nat} : zMet (d := d) X_X9_bits yX9_bits 1 f_X9_bits := zmet_mk (X := X_X9_bits) (by decide) rfl rfl s_X9_bits

abbrev X_X9_partOf : zM := (RX9, cX9_partOf, 3, (some .int), "partOf")
noncomputable def bX9_partOf_21 {d : Nat} (P : zP d) : zK d := (xiret P)
set_option maxRecDepth 100000 in
set_option maxHeartbeats 4000000 in
theorem sbX9_partOf_21 {d : Nat} (P : zP d) : zSim X_X9_partOf 1 P 21 (bX9_partOf_21 P) := by
  unfold bX9_partOf_21
  exact sm_ireturn (pc := 21) dX9_partOf_21 rfl
noncomputable def b_X9_partOf {d : Nat} (P : zP d) : zK d := (xild 2 (xpI 6 (xjoin (bX9_partOf_21 P) (fun j21 => (xcmp tge (xpI 0 j21) (xald 0 (xgfR 25 3 (xpI 6 (xild 1 (xbin zmul (xild 2 (xbin zadd (xald1 0 j21)))))))))))))
set_option maxRecDepth 100000 in
set_option maxHeartbeats 4000000 in
theorem s_X9_partOf {d : Nat} (P : zP d) : zSim X_X9_partOf 1 P 0 (b_X9_partOf P) := by
  unfold b_X9_partOf
  refine sm_iload_n (pc := 0) (n := 2) dX9_partOf_0 rfl ?_
  refine sm_bipush (pc := 1) dX9_partOf_1 zc_b_6 ?_
  refine sm_join (pc := 3) (pc' := 21) (sbX9_partOf_21 P) (fun j21 hj21 => ?_)
  refine sm_icmp_ge (pc := 3) (tgt := 20) dX9_partOf_3 (by decide) ?_ ?_
  · skip
    refine sm_iconst (pc := 20) dX9_partOf_20 zc_i_0 ?_
    exact hj21
  · skip
    refine sm_aload_n (pc := 6) (n := 0) dX9_partOf_6 rfl ?_
    refine gf_X9_7 (pc := 7) rfl dX9_partOf_7 ?_
    refine sm_bipush (pc := 10) dX9_partOf_10 zc_b_6 ?_
    refine sm_iload_n (pc := 12) (n := 1) dX9_partOf_12 rfl ?_
    refine sm_imul (pc := 13) dX9_partOf_13 ?_
    refine sm_iload_n (pc := 14) (n := 2) dX9_partOf_14 rfl ?_
    refine sm_iadd (pc := 15) dX9_partOf_15 ?_
    refine sm_iaload (pc := 16) dX9_partOf_16 ?_
    refine sm_goto (pc := 17) (tgt := 21) dX9_partOf_17 (by decide) ?_
    exact hj21
noncomputable def f_X9_partOf {d : Nat} : List zV → zH d → zP d → Bool := zfn 3 b_X9_partOf
theorem m_X9_partOf {d : Nat} : zMet (d := d) X_X9_partOf yX9_partOf 1 f_X9_partOf := zmet_mk (X := X_X9_partOf) (by decide) rfl rfl s_X9_partOf

abbrev X_X9_gcd : zM := (RX9, cX9_gcd, 5, (some .int), "gcd")
noncomputable def lX9_gcd_4 {d : Nat} (P : zP d) (r4 : zK d) : zK d := (xild 3 (xif0 t0eq (xild 2 (xiret P)) (xild 2 (xild 3 (xbinN zrem (xist 4 (xild 3 (xist 2 (xild 4 (xist 3 r4))))))))))
set_option maxRecDepth 100000 in
set_option maxHeartbeats 4000000 in
theorem slX9_gcd_4 {d : Nat} (P : zP d) (r4 : zK d) (hr4 : zSim X_X9_gcd 1 P 4 r4) : zSim X_X9_gcd 1 P 4 (lX9_gcd_4 P r4) := by
  unfold lX9_gcd_4
  refine sm_iload_n (pc := 4) (n := 3) dX9_gcd_4 rfl ?_
  refine sm_if_eq (pc := 5) (tgt := 21) dX9_gcd_5 (by decide) ?_ ?_
  · skip
    refine sm_iload_n (pc := 21) (n := 2) dX9_gcd_21 rfl ?_
    exact sm_ireturn (pc := 22) dX9_gcd_22 rfl
  · skip
    refine sm_iload_n (pc := 8) (n := 2) dX9_gcd_8 rfl ?_
    refine sm_iload_n (pc := 9) (n := 3) dX9_gcd_9 rfl ?_
    refine sm_irem (pc := 10) dX9_gcd_10 ?_
    refine sm_istore (pc := 11) (n := 4) dX9_gcd_11 ?_
    refine sm_iload_n (pc := 13) (n := 3) dX9_gcd_13 rfl ?_
    refine sm_istore_n (pc := 14) (n := 2) dX9_gcd_14 rfl ?_
    refine sm_iload (pc := 15) (n := 4) dX9_gcd_15 ?_
    refine sm_istore_n (pc := 17) (n := 3) dX9_gcd_17 rfl ?_
    refine sm_goto (pc := 18) (tgt := 4) dX9_gcd_18 (by decide) ?_
    exact hr4
noncomputable def b_X9_gcd {d : Nat} (P : zP d) : zK d := (xild 0 (xist 2 (xild 1 (xist 3 (xloop (fun r4 => (lX9_gcd_4 P r4)) 100000)))))
set_option maxRecDepth 100000 in
set_option maxHeartbeats 4000000 in
theorem s_X9_gcd {d : Nat} (P : zP d) : zSim X_X9_gcd 1 P 0 (b_X9_gcd P) := by
  unfold b_X9_gcd
  refine sm_iload_n (pc := 0) (n := 0) dX9_gcd_0 rfl ?_
  refine sm_istore_n (pc := 1) (n := 2) dX9_gcd_1 rfl ?_
  refine sm_iload_n (pc := 2) (n := 1) dX9_gcd_2 rfl ?_
  refine sm_istore_n (pc := 3) (n := 3) dX9_gcd_3 rfl ?_
  exact sm_loop (fun r4 hr4 => slX9_gcd_4 P r4 hr4) _
noncomputable def f_X9_gcd {d : Nat} : List zV → zH d → zP d → Bool := zfn 5 b_X9_gcd
theorem m_X9_gcd {d : Nat} : zMet (d := d) X_X9_gcd yX9_gcd 1 f_X9_gcd := zmet_mk (X := X_X9_gcd) (by decide) rfl rfl s_X9_gcd
