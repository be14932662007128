section
/-! the reference, by program -/
abbrev X_X9_isIn : zM := (RX9, cX9_isIn, 6, (some .boolean), "isIn")
noncomputable def bX9_isIn_18 {d : Nat} (P : zP d) : zK d := (xzret P)
set_option maxRecDepth 100000 in
set_option maxHeartbeats 4000000 in
theorem sbX9_isIn_18 {d : Nat} [zGh] (P : zP d) : zSim X_X9_isIn 1 P 18 (bX9_isIn_18 P) := by
  unfold bX9_isIn_18
  exact sm_zreturn (pc := 18) dX9_isIn_18 rfl
noncomputable def bX9_isIn_17 {d : Nat} (P : zP d) (j18 : zK d) : zK d := (xpI 0 j18)
set_option maxRecDepth 100000 in
set_option maxHeartbeats 4000000 in
theorem sbX9_isIn_17 {d : Nat} [zGh] (P : zP d) (j18 : zK d) (hj18 : zSim X_X9_isIn 1 P 18 j18) : zSim X_X9_isIn 1 P 17 (bX9_isIn_17 P j18) := by
  unfold bX9_isIn_17
  refine sm_iconst (pc := 17) dX9_isIn_17 zc_i_0 ?_
  exact hj18
noncomputable def b_X9_isIn {d : Nat} (P : zP d) : zK d := (xlld 0 (xlld 2 (xlcmp (xjoin (bX9_isIn_18 P) (fun j18 => (xjoin (bX9_isIn_17 P j18) (fun j17 => (xif0 t0ge (xlld 0 (xlld 4 (xlcmp (xif0 t0le (xpI 1 j18) j17)))) j17))))))))
set_option maxRecDepth 100000 in
set_option maxHeartbeats 4000000 in
theorem s_X9_isIn {d : Nat} [zGh] (P : zP d) : zSim X_X9_isIn 1 P 0 (b_X9_isIn P) := by
  unfold b_X9_isIn
  refine sm_lload_n (pc := 0) (n := 0) dX9_isIn_0 rfl ?_
  refine sm_lload_n (pc := 1) (n := 2) dX9_isIn_1 rfl ?_
  refine sm_lcmp (pc := 2) dX9_isIn_2 ?_
  refine sm_join (pc := 3) (pc' := 18) (sbX9_isIn_18 P) (fun j18 hj18 => ?_)
  refine sm_join (pc := 3) (pc' := 17) (sbX9_isIn_17 P j18 hj18) (fun j17 hj17 => ?_)
  refine sm_if_lt (pc := 3) (tgt := 17) dX9_isIn_3 (by decide) ?_ ?_
  · skip
    exact hj17
  · skip
    refine sm_lload_n (pc := 6) (n := 0) dX9_isIn_6 rfl ?_
    refine sm_lload (pc := 7) (n := 4) dX9_isIn_7 ?_
    refine sm_lcmp (pc := 9) dX9_isIn_9 ?_
    refine sm_if_gt (pc := 10) (tgt := 17) dX9_isIn_10 (by decide) ?_ ?_
    · skip
      exact hj17
    · skip
      refine sm_iconst (pc := 13) dX9_isIn_13 zc_i_1 ?_
      refine sm_goto (pc := 14) (tgt := 18) dX9_isIn_14 (by decide) ?_
      exact hj18
noncomputable def f_X9_isIn {d : Nat} : List zV → zH d → zP d → Bool := zfn 6 b_X9_isIn
theorem m_X9_isIn {d : Nat} : zMet (d := d) X_X9_isIn yX9_isIn 1 f_X9_isIn := zmet_mk (X := X_X9_isIn) (by decide) rfl rfl s_X9_isIn

abbrev X_X9_one : zM := (RX9, cX9_one, 1, (some .int), "one")
noncomputable def bX9_one_9 {d : Nat} (P : zP d) : zK d := (xiret P)
set_option maxRecDepth 100000 in
set_option maxHeartbeats 4000000 in
theorem sbX9_one_9 {d : Nat} [zGh] (P : zP d) : zSim X_X9_one 1 P 9 (bX9_one_9 P) := by
  unfold bX9_one_9
  exact sm_ireturn (pc := 9) dX9_one_9 rfl
noncomputable def b_X9_one {d : Nat} (P : zP d) : zK d := (xild 0 (xjoin (bX9_one_9 P) (fun j9 => (xif0 t0eq (xpI 0 j9) (xpI 1 j9)))))
set_option maxRecDepth 100000 in
set_option maxHeartbeats 4000000 in
theorem s_X9_one {d : Nat} [zGh] (P : zP d) : zSim X_X9_one 1 P 0 (b_X9_one P) := by
  unfold b_X9_one
  refine sm_iload_n (pc := 0) (n := 0) dX9_one_0 rfl ?_
  refine sm_join (pc := 1) (pc' := 9) (sbX9_one_9 P) (fun j9 hj9 => ?_)
  refine sm_if_eq (pc := 1) (tgt := 8) dX9_one_1 (by decide) ?_ ?_
  · skip
    refine sm_iconst (pc := 8) dX9_one_8 zc_i_0 ?_
    exact hj9
  · skip
    refine sm_iconst (pc := 4) dX9_one_4 zc_i_1 ?_
    refine sm_goto (pc := 5) (tgt := 9) dX9_one_5 (by decide) ?_
    exact hj9
noncomputable def f_X9_one {d : Nat} : List zV → zH d → zP d → Bool := zfn 1 b_X9_one
theorem m_X9_one {d : Nat} : zMet (d := d) X_X9_one yX9_one 1 f_X9_one := zmet_mk (X := X_X9_one) (by decide) rfl rfl s_X9_one

abbrev X_X9_bits : zM := (RX9, cX9_bits, 3, (some .int), "bits")
noncomputable def lX9_bits_4 {d : Nat} (P : zP d) (r4 : zK d) : zK d := (xild 2 (xif0 t0eq (xild 1 (xiret P)) (xinc 1 1 (xild 2 (xild 2 (xpI 1 (xbin zsub (xbin zand (xist 2 r4)))))))))
set_option maxRecDepth 100000 in
set_option maxHeartbeats 4000000 in
theorem slX9_bits_4 {d : Nat} [zGh] (P : zP d) (r4 : zK d) (hr4 : zSim X_X9_bits 1 P 4 r4) : zSim X_X9_bits 1 P 4 (lX9_bits_4 P r4) := by
  unfold lX9_bits_4
  refine sm_iload_n (pc := 4) (n := 2) dX9_bits_4 rfl ?_
  refine sm_if_eq (pc := 5) (tgt := 20) dX9_bits_5 (by decide) ?_ ?_
  · skip
    refine sm_iload_n (pc := 20) (n := 1) dX9_bits_20 rfl ?_
    exact sm_ireturn (pc := 21) dX9_bits_21 rfl
  · skip
    refine sm_iinc (pc := 8) (n := 1) dX9_bits_8 zc_i_1 ?_
    refine sm_iload_n (pc := 11) (n := 2) dX9_bits_11 rfl ?_
    refine sm_iload_n (pc := 12) (n := 2) dX9_bits_12 rfl ?_
    refine sm_iconst (pc := 13) dX9_bits_13 zc_i_1 ?_
    refine sm_isub (pc := 14) dX9_bits_14 ?_
    refine sm_iand (pc := 15) dX9_bits_15 ?_
    refine sm_istore_n (pc := 16) (n := 2) dX9_bits_16 rfl ?_
    refine sm_goto (pc := 17) (tgt := 4) dX9_bits_17 (by decide) ?_
    exact hr4
noncomputable def b_X9_bits {d : Nat} (P : zP d) : zK d := (xpI 0 (xist 1 (xild 0 (xist 2 (xloop (fun r4 => (lX9_bits_4 P r4)) 100000)))))
set_option maxRecDepth 100000 in
set_option maxHeartbeats 4000000 in
theorem s_X9_bits {d : Nat} [zGh] (P : zP d) : zSim X_X9_bits 1 P 0 (b_X9_bits P) := by
  unfold b_X9_bits
  refine sm_iconst (pc := 0) dX9_bits_0 zc_i_0 ?_
  refine sm_istore_n (pc := 1) (n := 1) dX9_bits_1 rfl ?_
  refine sm_iload_n (pc := 2) (n := 0) dX9_bits_2 rfl ?_
  refine sm_istore_n (pc := 3) (n := 2) dX9_bits_3 rfl ?_
  exact sm_loop (fun r4 hr4 => slX9_bits_4 P r4 hr4) _
noncomputable def f_X9_bits {d : Nat} : List zV → zH d → zP d → Bool := zfn 3 b_X9_bits
theorem m_X9_bits {d : Nat} : zMet (d := d) X_X9_bits yX9_bits 1 f_X9_bits := zmet_mk (X := X_X9_bits) (by decide) rfl rfl s_X9_bits

abbrev X_X9_partOf : zM := (RX9, cX9_partOf, 3, (some .int), "partOf")
noncomputable def bX9_partOf_21 {d : Nat} (P : zP d) : zK d := (xiret P)
set_option maxRecDepth 100000 in
set_option maxHeartbeats 4000000 in
theorem sbX9_partOf_21 {d : Nat} [zGh] (P : zP d) : zSim X_X9_partOf 1 P 21 (bX9_partOf_21 P) := by
  unfold bX9_partOf_21
  exact sm_ireturn (pc := 21) dX9_partOf_21 rfl
noncomputable def b_X9_partOf {d : Nat} (P : zP d) : zK d := (xild 2 (xpI 6 (xjoin (bX9_partOf_21 P) (fun j21 => (xcmp tge (xpI 0 j21) (xald 0 (xgfR 25 3 (xpI 6 (xild 1 (xbin zmul (xild 2 (xbin zadd (xald1 0 j21)))))))))))))
set_option maxRecDepth 100000 in
set_option maxHeartbeats 4000000 in
theorem s_X9_partOf {d : Nat} [zGh] (P : zP d) : zSim X_X9_partOf 1 P 0 (b_X9_partOf P) := by
  unfold b_X9_partOf
  refine sm_iload_n (pc := 0) (n := 2) dX9_partOf_0 rfl ?_
  refine sm_bipush (pc := 1) dX9_partOf_1 zc_b_6 ?_
  refine sm_join (pc := 3) (pc' := 21) (sbX9_partOf_21 P) (fun j21 hj21 => ?_)
  refine sm_icmp_ge (pc := 3) (tgt := 20) dX9_partOf_3 (by decide) ?_ ?_
  · skip
    refine sm_iconst (pc := 20) dX9_partOf_20 zc_i_0 ?_
    exact hj21
  · skip
    refine sm_aload_n (pc := 6) (n := 0) dX9_partOf_6 rfl ?_
    refine gf_X9_7 (pc := 7) rfl dX9_partOf_7 ?_
    refine sm_bipush (pc := 10) dX9_partOf_10 zc_b_6 ?_
    refine sm_iload_n (pc := 12) (n := 1) dX9_partOf_12 rfl ?_
    refine sm_imul (pc := 13) dX9_partOf_13 ?_
    refine sm_iload_n (pc := 14) (n := 2) dX9_partOf_14 rfl ?_
    refine sm_iadd (pc := 15) dX9_partOf_15 ?_
    refine sm_iaload (pc := 16) dX9_partOf_16 ?_
    refine sm_goto (pc := 17) (tgt := 21) dX9_partOf_17 (by decide) ?_
    exact hj21
noncomputable def f_X9_partOf {d : Nat} : List zV → zH d → zP d → Bool := zfn 3 b_X9_partOf
theorem m_X9_partOf {d : Nat} : zMet (d := d) X_X9_partOf yX9_partOf 1 f_X9_partOf := zmet_mk (X := X_X9_partOf) (by decide) rfl rfl s_X9_partOf

abbrev X_X9_gcd : zM := (RX9, cX9_gcd, 5, (some .int), "gcd")
noncomputable def lX9_gcd_4 {d : Nat} (P : zP d) (r4 : zK d) : zK d := (xild 3 (xif0 t0eq (xild 2 (xiret P)) (xild 2 (xild 3 (xbinN zrem (xist 4 (xild 3 (xist 2 (xild 4 (xist 3 r4))))))))))
set_option maxRecDepth 100000 in
set_option maxHeartbeats 4000000 in
theorem slX9_gcd_4 {d : Nat} [zGh] (P : zP d) (r4 : zK d) (hr4 : zSim X_X9_gcd 1 P 4 r4) : zSim X_X9_gcd 1 P 4 (lX9_gcd_4 P r4) := by
  unfold lX9_gcd_4
  refine sm_iload_n (pc := 4) (n := 3) dX9_gcd_4 rfl ?_
  refine sm_if_eq (pc := 5) (tgt := 21) dX9_gcd_5 (by decide) ?_ ?_
  · skip
    refine sm_iload_n (pc := 21) (n := 2) dX9_gcd_21 rfl ?_
    exact sm_ireturn (pc := 22) dX9_gcd_22 rfl
  · skip
    refine sm_iload_n (pc := 8) (n := 2) dX9_gcd_8 rfl ?_
    refine sm_iload_n (pc := 9) (n := 3) dX9_gcd_9 rfl ?_
    refine sm_irem (pc := 10) dX9_gcd_10 ?_
    refine sm_istore (pc := 11) (n := 4) dX9_gcd_11 ?_
    refine sm_iload_n (pc := 13) (n := 3) dX9_gcd_13 rfl ?_
    refine sm_istore_n (pc := 14) (n := 2) dX9_gcd_14 rfl ?_
    refine sm_iload (pc := 15) (n := 4) dX9_gcd_15 ?_
    refine sm_istore_n (pc := 17) (n := 3) dX9_gcd_17 rfl ?_
    refine sm_goto (pc := 18) (tgt := 4) dX9_gcd_18 (by decide) ?_
    exact hr4
noncomputable def b_X9_gcd {d : Nat} (P : zP d) : zK d := (xild 0 (xist 2 (xild 1 (xist 3 (xloop (fun r4 => (lX9_gcd_4 P r4)) 100000)))))
set_option maxRecDepth 100000 in
set_option maxHeartbeats 4000000 in
theorem s_X9_gcd {d : Nat} [zGh] (P : zP d) : zSim X_X9_gcd 1 P 0 (b_X9_gcd P) := by
  unfold b_X9_gcd
  refine sm_iload_n (pc := 0) (n := 0) dX9_gcd_0 rfl ?_
  refine sm_istore_n (pc := 1) (n := 2) dX9_gcd_1 rfl ?_
  refine sm_iload_n (pc := 2) (n := 1) dX9_gcd_2 rfl ?_
  refine sm_istore_n (pc := 3) (n := 3) dX9_gcd_3 rfl ?_
  exact sm_loop (fun r4 hr4 => slX9_gcd_4 P r4 hr4) _
noncomputable def f_X9_gcd {d : Nat} : List zV → zH d → zP d → Bool := zfn 5 b_X9_gcd
theorem m_X9_gcd {d : Nat} : zMet (d := d) X_X9_gcd yX9_gcd 1 f_X9_gcd := zmet_mk (X := X_X9_gcd) (by decide) rfl rfl s_X9_gcd

abbrev X_X9_grows : zM := (RX9, cX9_grows, 5, none, "grows")
noncomputable def lX9_grows_80 {d : Nat} (self : List zV → zH d → zP d → Bool) (P : zP d) (r80 : zK d) : zK d := (xild 4 (xif0 t0le (xvret P) (xald 0 (xgfR 25 13 (xild 1 (xild 4 (xast1 0 (fun v => v) (xald 0 (xild 1 (xpI 1 (xbin zadd (xild 2 (xild 4 (xbin zsub (xild 4 (xcV 25 4 0 0 self (xinc 4 4294967295 r80)))))))))))))))))
set_option maxRecDepth 100000 in
set_option maxHeartbeats 4000000 in
theorem slX9_grows_80 {d : Nat} [zGh] (n : Nat) (self : List zV → zH d → zP d → Bool) (hself : zMet X_X9_grows yX9_grows (1 + n) self) (P : zP d) (r80 : zK d) (hr80 : zSim X_X9_grows (1 + (n + 1)) P 80 r80) : zSim X_X9_grows (1 + (n + 1)) P 80 (lX9_grows_80 self P r80) := by
  unfold lX9_grows_80
  refine sm_iload (pc := 80) (n := 4) dX9_grows_80 ?_
  refine sm_if_le (pc := 82) (tgt := 112) dX9_grows_82 (by decide) ?_ ?_
  · skip
    exact sm_vreturn (pc := 112) dX9_grows_112 rfl
  · skip
    refine sm_aload_n (pc := 85) (n := 0) dX9_grows_85 rfl ?_
    refine gf_X9_35 (pc := 86) rfl dX9_grows_86 ?_
    refine sm_iload_n (pc := 89) (n := 1) dX9_grows_89 rfl ?_
    refine sm_iload (pc := 90) (n := 4) dX9_grows_90 ?_
    refine sm_iastore (pc := 92) dX9_grows_92 ?_
    refine sm_aload_n (pc := 93) (n := 0) dX9_grows_93 rfl ?_
    refine sm_iload_n (pc := 94) (n := 1) dX9_grows_94 rfl ?_
    refine sm_iconst (pc := 95) dX9_grows_95 zc_i_1 ?_
    refine sm_iadd (pc := 96) dX9_grows_96 ?_
    refine sm_iload_n (pc := 97) (n := 2) dX9_grows_97 rfl ?_
    refine sm_iload (pc := 98) (n := 4) dX9_grows_98 ?_
    refine sm_isub (pc := 100) dX9_grows_100 ?_
    refine sm_iload (pc := 101) (n := 4) dX9_grows_101 ?_
    refine sm_cV (pc := 103) (ci := 9) (n := 4) (mc := 0) (ms := 0) rfl hself (cr_X9_162 (X := X_X9_grows) (fr := 1 + (n + 1)) (frc := 1 + n) (pc := 103) (mc := 0) (ms := 0) rfl (by omega) dX9_grows_103) ?_
    refine sm_iinc (pc := 106) (n := 4) dX9_grows_106 zc_i_m1 ?_
    refine sm_goto (pc := 109) (tgt := 80) dX9_grows_109 (by decide) ?_
    exact hr80
noncomputable def bX9_grows_45 {d : Nat} (self : List zV → zH d → zP d → Bool) (P : zP d) (r7 : zK d) : zK d := (xast1 0 (fun v => v) (xinc 4 1 r7))
set_option maxRecDepth 100000 in
set_option maxHeartbeats 4000000 in
theorem sbX9_grows_45 {d : Nat} [zGh] (n : Nat) (self : List zV → zH d → zP d → Bool) (hself : zMet X_X9_grows yX9_grows (1 + n) self) (P : zP d) (r7 : zK d) (hr7 : zSim X_X9_grows (1 + (n + 1)) P 7 r7) : zSim X_X9_grows (1 + (n + 1)) P 45 (bX9_grows_45 self P r7) := by
  unfold bX9_grows_45
  refine sm_iastore (pc := 45) dX9_grows_45 ?_
  refine sm_iinc (pc := 46) (n := 4) dX9_grows_46 zc_i_1 ?_
  refine sm_goto (pc := 49) (tgt := 7) dX9_grows_49 (by decide) ?_
  exact hr7
noncomputable def lX9_grows_7 {d : Nat} (self : List zV → zH d → zP d → Bool) (P : zP d) (r7 : zK d) : zK d := (xild 4 (xpI 6 (xcmp tge (xald 0 (xgfR 25 4 (xald 0 (xgfI 25 2 (xild 1 (xast1 0 (fun v => v) (xald 0 (xdup (xgfI 25 2 (xpI 1 (xbin zadd (xpfI 25 2 (xvret P))))))))))))) (xald 0 (xgfR 25 3 (xpI 6 (xald 0 (xgfI 25 2 (xbin zmul (xild 4 (xbin zadd (xild 4 (xild 1 (xjoin (bX9_grows_45 self P r7) (fun j45 => (xcmp tge (xpI 0 j45) (xald 0 (xgfR 25 13 (xild 4 (xald1 0 j45))))))))))))))))))))
set_option maxRecDepth 100000 in
set_option maxHeartbeats 4000000 in
theorem slX9_grows_7 {d : Nat} [zGh] (n : Nat) (self : List zV → zH d → zP d → Bool) (hself : zMet X_X9_grows yX9_grows (1 + n) self) (P : zP d) (r7 : zK d) (hr7 : zSim X_X9_grows (1 + (n + 1)) P 7 r7) : zSim X_X9_grows (1 + (n + 1)) P 7 (lX9_grows_7 self P r7) := by
  unfold lX9_grows_7
  refine sm_iload (pc := 7) (n := 4) dX9_grows_7 ?_
  refine sm_bipush (pc := 9) dX9_grows_9 zc_b_6 ?_
  refine sm_icmp_ge (pc := 11) (tgt := 52) dX9_grows_11 (by decide) ?_ ?_
  · skip
    refine sm_aload_n (pc := 52) (n := 0) dX9_grows_52 rfl ?_
    refine gf_X9_13 (pc := 53) rfl dX9_grows_53 ?_
    refine sm_aload_n (pc := 56) (n := 0) dX9_grows_56 rfl ?_
    refine gf_X9_153 (pc := 57) rfl dX9_grows_57 ?_
    refine sm_iload_n (pc := 60) (n := 1) dX9_grows_60 rfl ?_
    refine sm_iastore (pc := 61) dX9_grows_61 ?_
    refine sm_aload_n (pc := 62) (n := 0) dX9_grows_62 rfl ?_
    refine sm_dup (pc := 63) dX9_grows_63 ?_
    refine gf_X9_153 (pc := 64) rfl dX9_grows_64 ?_
    refine sm_iconst (pc := 67) dX9_grows_67 zc_i_1 ?_
    refine sm_iadd (pc := 68) dX9_grows_68 ?_
    refine pf_X9_153 (pc := 69) rfl dX9_grows_69 ?_
    exact sm_vreturn (pc := 72) dX9_grows_72 rfl
  · skip
    refine sm_aload_n (pc := 14) (n := 0) dX9_grows_14 rfl ?_
    refine gf_X9_7 (pc := 15) rfl dX9_grows_15 ?_
    refine sm_bipush (pc := 18) dX9_grows_18 zc_b_6 ?_
    refine sm_aload_n (pc := 20) (n := 0) dX9_grows_20 rfl ?_
    refine gf_X9_153 (pc := 21) rfl dX9_grows_21 ?_
    refine sm_imul (pc := 24) dX9_grows_24 ?_
    refine sm_iload (pc := 25) (n := 4) dX9_grows_25 ?_
    refine sm_iadd (pc := 27) dX9_grows_27 ?_
    refine sm_iload (pc := 28) (n := 4) dX9_grows_28 ?_
    refine sm_iload_n (pc := 30) (n := 1) dX9_grows_30 rfl ?_
    refine sm_join (pc := 31) (pc' := 45) (sbX9_grows_45 n self hself P r7 hr7) (fun j45 hj45 => ?_)
    refine sm_icmp_ge (pc := 31) (tgt := 44) dX9_grows_31 (by decide) ?_ ?_
    · skip
      refine sm_iconst (pc := 44) dX9_grows_44 zc_i_0 ?_
      exact hj45
    · skip
      refine sm_aload_n (pc := 34) (n := 0) dX9_grows_34 rfl ?_
      refine gf_X9_35 (pc := 35) rfl dX9_grows_35 ?_
      refine sm_iload (pc := 38) (n := 4) dX9_grows_38 ?_
      refine sm_iaload (pc := 40) dX9_grows_40 ?_
      refine sm_goto (pc := 41) (tgt := 45) dX9_grows_41 (by decide) ?_
      exact hj45
noncomputable def b_X9_grows {d : Nat} (self : List zV → zH d → zP d → Bool) (P : zP d) : zK d := (xild 2 (xif0 t0eq (xpI 0 (xist 4 (xloop (fun r7 => (lX9_grows_7 self P r7)) 100000))) (xild 2 (xild 3 (xmm zmin (xist 4 (xloop (fun r80 => (lX9_grows_80 self P r80)) 100000)))))))
set_option maxRecDepth 100000 in
set_option maxHeartbeats 4000000 in
theorem s_X9_grows {d : Nat} [zGh] (n : Nat) (self : List zV → zH d → zP d → Bool) (hself : zMet X_X9_grows yX9_grows (1 + n) self) (P : zP d) : zSim X_X9_grows (1 + (n + 1)) P 0 (b_X9_grows self P) := by
  unfold b_X9_grows
  refine sm_iload_n (pc := 0) (n := 2) dX9_grows_0 rfl ?_
  refine sm_if_ne (pc := 1) (tgt := 73) dX9_grows_1 (by decide) ?_ ?_
  · skip
    refine sm_iload_n (pc := 73) (n := 2) dX9_grows_73 rfl ?_
    refine sm_iload_n (pc := 74) (n := 3) dX9_grows_74 rfl ?_
    refine sm_mmin (pc := 75) wd_917 wd_76 wd_6 wd_77 (by omega) dX9_grows_75 ?_
    refine sm_istore (pc := 78) (n := 4) dX9_grows_78 ?_
    exact sm_loop (fun r80 hr80 => slX9_grows_80 n self hself P r80 hr80) _
  · skip
    refine sm_iconst (pc := 4) dX9_grows_4 zc_i_0 ?_
    refine sm_istore (pc := 5) (n := 4) dX9_grows_5 ?_
    exact sm_loop (fun r7 hr7 => slX9_grows_7 n self hself P r7 hr7) _
noncomputable def f_X9_grows {d : Nat} : List zV → zH d → zP d → Bool := zrec 5 b_X9_grows 8
theorem m_X9_grows {d : Nat} : zMet (d := d) X_X9_grows yX9_grows 9 f_X9_grows := zmet_rec (X := X_X9_grows) (fr := 1) (by decide) rfl rfl (fun n f hf _ P => s_X9_grows n f hf P) 8

abbrev X_X9_classes : zM := (RX9, cX9_classes, 7, none, "classes")
noncomputable def bX9_classes_270 {d : Nat} (P : zP d) (r38 : zK d) : zK d := (xast1 0 (fun v => v) (xald 0 (xdup (xgfI 25 11 (xald 0 (xgfR 25 7 (xild 1 (xald1 1 (xcS 1 0 0 f_X9_one (xbin zadd (xpfI 25 11 (xinc 1 1 r38))))))))))))
set_option maxRecDepth 100000 in
set_option maxHeartbeats 4000000 in
theorem sbX9_classes_270 {d : Nat} [zGh] (P : zP d) (r38 : zK d) (hr38 : zSim X_X9_classes 2 P 38 r38) : zSim X_X9_classes 2 P 270 (bX9_classes_270 P r38) := by
  unfold bX9_classes_270
  refine sm_iastore (pc := 270) dX9_classes_270 ?_
  refine sm_aload_n (pc := 271) (n := 0) dX9_classes_271 rfl ?_
  refine sm_dup (pc := 272) dX9_classes_272 ?_
  refine gf_X9_172 (pc := 273) rfl dX9_classes_273 ?_
  refine sm_aload_n (pc := 276) (n := 0) dX9_classes_276 rfl ?_
  refine gf_X9_22 (pc := 277) rfl dX9_classes_277 ?_
  refine sm_iload_n (pc := 280) (n := 1) dX9_classes_280 rfl ?_
  refine sm_baload (pc := 281) dX9_classes_281 ?_
  refine sm_cS (pc := 282) (n := 1) (mc := 0) (ms := 0) m_X9_one (cr_X9_187 (X := X_X9_classes) (fr := 2) (frc := 1) (pc := 282) (mc := 0) (ms := 0) rfl (by decide) dX9_classes_282) ?_
  refine sm_iadd (pc := 285) dX9_classes_285 ?_
  refine pf_X9_172 (pc := 286) rfl dX9_classes_286 ?_
  refine sm_iinc (pc := 289) (n := 1) dX9_classes_289 zc_i_1 ?_
  refine sm_goto (pc := 292) (tgt := 38) dX9_classes_292 (by decide) ?_
  exact hr38
noncomputable def bX9_classes_235 {d : Nat} (P : zP d) (r38 : zK d) : zK d := (xast1 1 (fun v => zand v 1) (xald 0 (xgfR 25 5 (xild 1 (xald 0 (xgfI 25 12 (xild 2 (xbinN zdiv (xast1 0 (fun v => v) (xald 0 (xgfR 25 10 (xild 1 (xald 0 (xgfR 25 7 (xild 1 (xald1 1 (xjoin (bX9_classes_270 P r38) (fun j270 => (xif0 t0eq (xpI 4294967295 j270) (xald 0 (xgfI 25 11 j270)))))))))))))))))))))
set_option maxRecDepth 100000 in
set_option maxHeartbeats 4000000 in
theorem sbX9_classes_235 {d : Nat} [zGh] (P : zP d) (r38 : zK d) (hr38 : zSim X_X9_classes 2 P 38 r38) : zSim X_X9_classes 2 P 235 (bX9_classes_235 P r38) := by
  unfold bX9_classes_235
  refine sm_bastore (pc := 235) dX9_classes_235 ?_
  refine sm_aload_n (pc := 236) (n := 0) dX9_classes_236 rfl ?_
  refine gf_X9_16 (pc := 237) rfl dX9_classes_237 ?_
  refine sm_iload_n (pc := 240) (n := 1) dX9_classes_240 rfl ?_
  refine sm_aload_n (pc := 241) (n := 0) dX9_classes_241 rfl ?_
  refine gf_X9_166 (pc := 242) rfl dX9_classes_242 ?_
  refine sm_iload_n (pc := 245) (n := 2) dX9_classes_245 rfl ?_
  refine sm_idiv (pc := 246) dX9_classes_246 ?_
  refine sm_iastore (pc := 247) dX9_classes_247 ?_
  refine sm_aload_n (pc := 248) (n := 0) dX9_classes_248 rfl ?_
  refine gf_X9_32 (pc := 249) rfl dX9_classes_249 ?_
  refine sm_iload_n (pc := 252) (n := 1) dX9_classes_252 rfl ?_
  refine sm_aload_n (pc := 253) (n := 0) dX9_classes_253 rfl ?_
  refine gf_X9_22 (pc := 254) rfl dX9_classes_254 ?_
  refine sm_iload_n (pc := 257) (n := 1) dX9_classes_257 rfl ?_
  refine sm_baload (pc := 258) dX9_classes_258 ?_
  refine sm_join (pc := 259) (pc' := 270) (sbX9_classes_270 P r38 hr38) (fun j270 hj270 => ?_)
  refine sm_if_eq (pc := 259) (tgt := 269) dX9_classes_259 (by decide) ?_ ?_
  · skip
    refine sm_iconst (pc := 269) dX9_classes_269 zc_i_m1 ?_
    exact hj270
  · skip
    refine sm_aload_n (pc := 262) (n := 0) dX9_classes_262 rfl ?_
    refine gf_X9_172 (pc := 263) rfl dX9_classes_263 ?_
    refine sm_goto (pc := 266) (tgt := 270) dX9_classes_266 (by decide) ?_
    exact hj270
noncomputable def bX9_classes_210 {d : Nat} (P : zP d) (r84 : zK d) : zK d := (xinc 5 1 r84)
set_option maxRecDepth 100000 in
set_option maxHeartbeats 4000000 in
theorem sbX9_classes_210 {d : Nat} [zGh] (P : zP d) (r84 : zK d) (hr84 : zSim X_X9_classes 2 P 84 r84) : zSim X_X9_classes 2 P 210 (bX9_classes_210 P r84) := by
  unfold bX9_classes_210
  refine sm_iinc (pc := 210) (n := 5) dX9_classes_210 zc_i_1 ?_
  refine sm_goto (pc := 213) (tgt := 84) dX9_classes_213 (by decide) ?_
  exact hr84
noncomputable def bX9_classes_190 {d : Nat} (P : zP d) (r84 : zK d) : zK d := (xild 6 (xpI 2 (xbinN zrem (xjoin (bX9_classes_210 P r84) (fun j210 => (xif0 t0eq (xald 0 (xgfR 25 9 (xild 1 (xald 0 (xgfR 25 9 (xild 1 (xald1 0 (xun zneg (xast1 0 (fun v => v) j210))))))))) j210))))))
set_option maxRecDepth 100000 in
set_option maxHeartbeats 4000000 in
theorem sbX9_classes_190 {d : Nat} [zGh] (P : zP d) (r84 : zK d) (hr84 : zSim X_X9_classes 2 P 84 r84) : zSim X_X9_classes 2 P 190 (bX9_classes_190 P r84) := by
  unfold bX9_classes_190
  refine sm_iload (pc := 190) (n := 6) dX9_classes_190 ?_
  refine sm_iconst (pc := 192) dX9_classes_192 zc_i_2 ?_
  refine sm_irem (pc := 193) dX9_classes_193 ?_
  refine sm_join (pc := 194) (pc' := 210) (sbX9_classes_210 P r84 hr84) (fun j210 hj210 => ?_)
  refine sm_if_ne (pc := 194) (tgt := 210) dX9_classes_194 (by decide) ?_ ?_
  · skip
    exact hj210
  · skip
    refine sm_aload_n (pc := 197) (n := 0) dX9_classes_197 rfl ?_
    refine gf_X9_29 (pc := 198) rfl dX9_classes_198 ?_
    refine sm_iload_n (pc := 201) (n := 1) dX9_classes_201 rfl ?_
    refine sm_aload_n (pc := 202) (n := 0) dX9_classes_202 rfl ?_
    refine gf_X9_29 (pc := 203) rfl dX9_classes_203 ?_
    refine sm_iload_n (pc := 206) (n := 1) dX9_classes_206 rfl ?_
    refine sm_iaload (pc := 207) dX9_classes_207 ?_
    refine sm_ineg (pc := 208) dX9_classes_208 ?_
    refine sm_iastore (pc := 209) dX9_classes_209 ?_
    exact hj210
noncomputable def cX9_classes_168 {d : Nat} (P : zP d) (r84 : zK d) : zK d := (xbinN zdiv (xild 6 (xbin zmul (xast1 0 (fun v => v) (xild 6 (xald 0 (xgfI 25 1 (xbinN zrem (xjoin (bX9_classes_190 P r84) (fun j190 => (xif0 t0eq (xald 0 (xgfR 25 8 (xild 1 (xpI 0 (xast1 1 (fun v => zand v 1) j190))))) j190)))))))))))
set_option maxRecDepth 100000 in
set_option maxHeartbeats 4000000 in
theorem scX9_classes_168 {d : Nat} [zGh] (P : zP d) (r84 : zK d) (hr84 : zSim X_X9_classes 2 P 84 r84) : zSim X_X9_classes 2 P 168 (cX9_classes_168 P r84) := by
  unfold cX9_classes_168
  refine sm_idiv (pc := 168) dX9_classes_168 ?_
  refine sm_iload (pc := 169) (n := 6) dX9_classes_169 ?_
  refine sm_imul (pc := 171) dX9_classes_171 ?_
  refine sm_iastore (pc := 172) dX9_classes_172 ?_
  refine sm_iload (pc := 173) (n := 6) dX9_classes_173 ?_
  refine sm_aload_n (pc := 175) (n := 0) dX9_classes_175 rfl ?_
  refine gf_X9_184 (pc := 176) rfl dX9_classes_176 ?_
  refine sm_irem (pc := 179) dX9_classes_179 ?_
  refine sm_join (pc := 180) (pc' := 190) (sbX9_classes_190 P r84 hr84) (fun j190 hj190 => ?_)
  refine sm_if_ne (pc := 180) (tgt := 190) dX9_classes_180 (by decide) ?_ ?_
  · skip
    exact hj190
  · skip
    refine sm_aload_n (pc := 183) (n := 0) dX9_classes_183 rfl ?_
    refine gf_X9_26 (pc := 184) rfl dX9_classes_184 ?_
    refine sm_iload_n (pc := 187) (n := 1) dX9_classes_187 rfl ?_
    refine sm_iconst (pc := 188) dX9_classes_188 zc_i_0 ?_
    refine sm_bastore (pc := 189) dX9_classes_189 ?_
    exact hj190
noncomputable def bX9_classes_130 {d : Nat} (P : zP d) (r84 : zK d) : zK d := (xist 3 (xild 4 (xild 3 (xmm zmax (xist 4 (xild 2 (xild 6 (xild 3 (xbin zmul (xbin zmul (xist 2 (xald 0 (xgfR 25 6 (xild 1 (xald 0 (xgfR 25 6 (xild 1 (xald1 0 (xald 0 (xgfR 25 6 (xild 1 (xald1 0 (xild 6 (xcS 2 0 0 f_X9_gcd (cX9_classes_168 P r84)))))))))))))))))))))))))
set_option maxRecDepth 100000 in
set_option maxHeartbeats 4000000 in
theorem sbX9_classes_130 {d : Nat} [zGh] (P : zP d) (r84 : zK d) (hr84 : zSim X_X9_classes 2 P 84 r84) : zSim X_X9_classes 2 P 130 (bX9_classes_130 P r84) := by
  unfold bX9_classes_130
  refine sm_istore_n (pc := 130) (n := 3) dX9_classes_130 rfl ?_
  refine sm_iload (pc := 131) (n := 4) dX9_classes_131 ?_
  refine sm_iload_n (pc := 133) (n := 3) dX9_classes_133 rfl ?_
  refine sm_mmax (pc := 134) wd_926 wd_104 wd_6 wd_105 (by decide) dX9_classes_134 ?_
  refine sm_istore (pc := 137) (n := 4) dX9_classes_137 ?_
  refine sm_iload_n (pc := 139) (n := 2) dX9_classes_139 rfl ?_
  refine sm_iload (pc := 140) (n := 6) dX9_classes_140 ?_
  refine sm_iload_n (pc := 142) (n := 3) dX9_classes_142 rfl ?_
  refine sm_imul (pc := 143) dX9_classes_143 ?_
  refine sm_imul (pc := 144) dX9_classes_144 ?_
  refine sm_istore_n (pc := 145) (n := 2) dX9_classes_145 rfl ?_
  refine sm_aload_n (pc := 146) (n := 0) dX9_classes_146 rfl ?_
  refine gf_X9_19 (pc := 147) rfl dX9_classes_147 ?_
  refine sm_iload_n (pc := 150) (n := 1) dX9_classes_150 rfl ?_
  refine sm_aload_n (pc := 151) (n := 0) dX9_classes_151 rfl ?_
  refine gf_X9_19 (pc := 152) rfl dX9_classes_152 ?_
  refine sm_iload_n (pc := 155) (n := 1) dX9_classes_155 rfl ?_
  refine sm_iaload (pc := 156) dX9_classes_156 ?_
  refine sm_aload_n (pc := 157) (n := 0) dX9_classes_157 rfl ?_
  refine gf_X9_19 (pc := 158) rfl dX9_classes_158 ?_
  refine sm_iload_n (pc := 161) (n := 1) dX9_classes_161 rfl ?_
  refine sm_iaload (pc := 162) dX9_classes_162 ?_
  refine sm_iload (pc := 163) (n := 6) dX9_classes_163 ?_
  refine sm_cS (pc := 165) (n := 2) (mc := 0) (ms := 0) m_X9_gcd (cr_X9_181 (X := X_X9_classes) (fr := 2) (frc := 1) (pc := 165) (mc := 0) (ms := 0) rfl (by decide) dX9_classes_165) ?_
  exact scX9_classes_168 P r84 hr84
noncomputable def bX9_classes_129 {d : Nat} (P : zP d) (j130 : zK d) : zK d := (xpI 1 j130)
set_option maxRecDepth 100000 in
set_option maxHeartbeats 4000000 in
theorem sbX9_classes_129 {d : Nat} [zGh] (P : zP d) (j130 : zK d) (hj130 : zSim X_X9_classes 2 P 130 j130) : zSim X_X9_classes 2 P 129 (bX9_classes_129 P j130) := by
  unfold bX9_classes_129
  refine sm_iconst (pc := 129) dX9_classes_129 zc_i_1 ?_
  exact hj130
noncomputable def cX9_classes_126 {d : Nat} (P : zP d) (j130 : zK d) : zK d := j130
set_option maxRecDepth 100000 in
set_option maxHeartbeats 4000000 in
theorem scX9_classes_126 {d : Nat} [zGh] (P : zP d) (j130 : zK d) (hj130 : zSim X_X9_classes 2 P 130 j130) : zSim X_X9_classes 2 P 126 (cX9_classes_126 P j130) := by
  unfold cX9_classes_126
  refine sm_goto (pc := 126) (tgt := 130) dX9_classes_126 (by decide) ?_
  exact hj130
noncomputable def lX9_classes_84 {d : Nat} (P : zP d) (r38 : zK d) (r84 : zK d) : zK d := (xild 5 (xald 0 (xgfR 25 4 (xild 1 (xald1 0 (xcmp tge (xald 0 (xgfR 25 7 (xild 1 (xild 4 (xald 0 (xgfI 25 1 (xjoin (bX9_classes_235 P r38) (fun j235 => (xcmp tge (xpI 0 j235) (xpI 1 j235)))))))))) (xald 0 (xild 1 (xild 5 (xcV 25 3 0 0 f_X9_partOf (xist 6 (xild 5 (xjoin (bX9_classes_130 P r84) (fun j130 => (xjoin (bX9_classes_129 P j130) (fun j129 => (xif0 t0le j129 (xald 0 (xild 1 (xild 5 (xpI 1 (xbin zsub (xcV 25 3 0 0 f_X9_partOf (xild 6 (xcmp Nat.beq (xild 3 (xpI 1 (xbin zadd (cX9_classes_126 P j130)))) j129)))))))))))))))))))))))))
set_option maxRecDepth 100000 in
set_option maxHeartbeats 4000000 in
theorem slX9_classes_84 {d : Nat} [zGh] (P : zP d) (r38 : zK d) (r84 : zK d) (hr38 : zSim X_X9_classes 2 P 38 r38) (hr84 : zSim X_X9_classes 2 P 84 r84) : zSim X_X9_classes 2 P 84 (lX9_classes_84 P r38 r84) := by
  unfold lX9_classes_84
  refine sm_iload (pc := 84) (n := 5) dX9_classes_84 ?_
  refine sm_aload_n (pc := 86) (n := 0) dX9_classes_86 rfl ?_
  refine gf_X9_13 (pc := 87) rfl dX9_classes_87 ?_
  refine sm_iload_n (pc := 90) (n := 1) dX9_classes_90 rfl ?_
  refine sm_iaload (pc := 91) dX9_classes_91 ?_
  refine sm_icmp_ge (pc := 92) (tgt := 216) dX9_classes_92 (by decide) ?_ ?_
  · skip
    refine sm_aload_n (pc := 216) (n := 0) dX9_classes_216 rfl ?_
    refine gf_X9_22 (pc := 217) rfl dX9_classes_217 ?_
    refine sm_iload_n (pc := 220) (n := 1) dX9_classes_220 rfl ?_
    refine sm_iload (pc := 221) (n := 4) dX9_classes_221 ?_
    refine sm_aload_n (pc := 223) (n := 0) dX9_classes_223 rfl ?_
    refine gf_X9_184 (pc := 224) rfl dX9_classes_224 ?_
    refine sm_join (pc := 227) (pc' := 235) (sbX9_classes_235 P r38 hr38) (fun j235 hj235 => ?_)
    refine sm_icmp_ge (pc := 227) (tgt := 234) dX9_classes_227 (by decide) ?_ ?_
    · skip
      refine sm_iconst (pc := 234) dX9_classes_234 zc_i_0 ?_
      exact hj235
    · skip
      refine sm_iconst (pc := 230) dX9_classes_230 zc_i_1 ?_
      refine sm_goto (pc := 231) (tgt := 235) dX9_classes_231 (by decide) ?_
      exact hj235
  · skip
    refine sm_aload_n (pc := 95) (n := 0) dX9_classes_95 rfl ?_
    refine sm_iload_n (pc := 96) (n := 1) dX9_classes_96 rfl ?_
    refine sm_iload (pc := 97) (n := 5) dX9_classes_97 ?_
    refine sm_cV (pc := 99) (ci := 9) (n := 3) (mc := 0) (ms := 0) rfl m_X9_partOf (cr_X9_175 (X := X_X9_classes) (fr := 2) (frc := 1) (pc := 99) (mc := 0) (ms := 0) rfl (by decide) dX9_classes_99) ?_
    refine sm_istore (pc := 102) (n := 6) dX9_classes_102 ?_
    refine sm_iload (pc := 104) (n := 5) dX9_classes_104 ?_
    refine sm_join (pc := 106) (pc' := 130) (sbX9_classes_130 P r84 hr84) (fun j130 hj130 => ?_)
    refine sm_join (pc := 106) (pc' := 129) (sbX9_classes_129 P j130 hj130) (fun j129 hj129 => ?_)
    refine sm_if_le (pc := 106) (tgt := 129) dX9_classes_106 (by decide) ?_ ?_
    · skip
      exact hj129
    · skip
      refine sm_aload_n (pc := 109) (n := 0) dX9_classes_109 rfl ?_
      refine sm_iload_n (pc := 110) (n := 1) dX9_classes_110 rfl ?_
      refine sm_iload (pc := 111) (n := 5) dX9_classes_111 ?_
      refine sm_iconst (pc := 113) dX9_classes_113 zc_i_1 ?_
      refine sm_isub (pc := 114) dX9_classes_114 ?_
      refine sm_cV (pc := 115) (ci := 9) (n := 3) (mc := 0) (ms := 0) rfl m_X9_partOf (cr_X9_175 (X := X_X9_classes) (fr := 2) (frc := 1) (pc := 115) (mc := 0) (ms := 0) rfl (by decide) dX9_classes_115) ?_
      refine sm_iload (pc := 118) (n := 6) dX9_classes_118 ?_
      refine sm_icmp_ne (pc := 120) (tgt := 129) dX9_classes_120 (by decide) ?_ ?_
      · skip
        exact hj129
      · skip
        refine sm_iload_n (pc := 123) (n := 3) dX9_classes_123 rfl ?_
        refine sm_iconst (pc := 124) dX9_classes_124 zc_i_1 ?_
        refine sm_iadd (pc := 125) dX9_classes_125 ?_
        exact scX9_classes_126 P j130 hj130
noncomputable def cX9_classes_73 {d : Nat} (P : zP d) (r38 : zK d) : zK d := (xast1 0 (fun v => v) (xald 0 (xgfR 25 7 (xild 1 (xpI 1 (xast1 1 (fun v => zand v 1) (xpI 0 (xist 5 (xloop (fun r84 => (lX9_classes_84 P r38 r84)) 100000)))))))))
set_option maxRecDepth 100000 in
set_option maxHeartbeats 4000000 in
theorem scX9_classes_73 {d : Nat} [zGh] (P : zP d) (r38 : zK d) (hr38 : zSim X_X9_classes 2 P 38 r38) : zSim X_X9_classes 2 P 73 (cX9_classes_73 P r38) := by
  unfold cX9_classes_73
  refine sm_iastore (pc := 73) dX9_classes_73 ?_
  refine sm_aload_n (pc := 74) (n := 0) dX9_classes_74 rfl ?_
  refine gf_X9_22 (pc := 75) rfl dX9_classes_75 ?_
  refine sm_iload_n (pc := 78) (n := 1) dX9_classes_78 rfl ?_
  refine sm_iconst (pc := 79) dX9_classes_79 zc_i_1 ?_
  refine sm_bastore (pc := 80) dX9_classes_80 ?_
  refine sm_iconst (pc := 81) dX9_classes_81 zc_i_0 ?_
  refine sm_istore (pc := 82) (n := 5) dX9_classes_82 ?_
  exact sm_loop (fun r84 hr84 => slX9_classes_84 P r38 r84 hr38 hr84) _
noncomputable def lX9_classes_38 {d : Nat} (P : zP d) (r38 : zK d) : zK d := (xild 1 (xald 0 (xgfI 25 2 (xcmp tge (xvret P) (xpI 1 (xist 2 (xpI 0 (xist 3 (xpI 0 (xist 4 (xald 0 (xgfR 25 6 (xild 1 (xpI 1 (xast1 0 (fun v => v) (xald 0 (xgfR 25 8 (xild 1 (xpI 1 (xast1 1 (fun v => zand v 1) (xald 0 (xgfR 25 9 (xild 1 (xpI 1 (cX9_classes_73 P r38)))))))))))))))))))))))))
set_option maxRecDepth 100000 in
set_option maxHeartbeats 4000000 in
theorem slX9_classes_38 {d : Nat} [zGh] (P : zP d) (r38 : zK d) (hr38 : zSim X_X9_classes 2 P 38 r38) : zSim X_X9_classes 2 P 38 (lX9_classes_38 P r38) := by
  unfold lX9_classes_38
  refine sm_iload_n (pc := 38) (n := 1) dX9_classes_38 rfl ?_
  refine sm_aload_n (pc := 39) (n := 0) dX9_classes_39 rfl ?_
  refine gf_X9_153 (pc := 40) rfl dX9_classes_40 ?_
  refine sm_icmp_ge (pc := 43) (tgt := 295) dX9_classes_43 (by decide) ?_ ?_
  · skip
    exact sm_vreturn (pc := 295) dX9_classes_295 rfl
  · skip
    refine sm_iconst (pc := 46) dX9_classes_46 zc_i_1 ?_
    refine sm_istore_n (pc := 47) (n := 2) dX9_classes_47 rfl ?_
    refine sm_iconst (pc := 48) dX9_classes_48 zc_i_0 ?_
    refine sm_istore_n (pc := 49) (n := 3) dX9_classes_49 rfl ?_
    refine sm_iconst (pc := 50) dX9_classes_50 zc_i_0 ?_
    refine sm_istore (pc := 51) (n := 4) dX9_classes_51 ?_
    refine sm_aload_n (pc := 53) (n := 0) dX9_classes_53 rfl ?_
    refine gf_X9_19 (pc := 54) rfl dX9_classes_54 ?_
    refine sm_iload_n (pc := 57) (n := 1) dX9_classes_57 rfl ?_
    refine sm_iconst (pc := 58) dX9_classes_58 zc_i_1 ?_
    refine sm_iastore (pc := 59) dX9_classes_59 ?_
    refine sm_aload_n (pc := 60) (n := 0) dX9_classes_60 rfl ?_
    refine gf_X9_26 (pc := 61) rfl dX9_classes_61 ?_
    refine sm_iload_n (pc := 64) (n := 1) dX9_classes_64 rfl ?_
    refine sm_iconst (pc := 65) dX9_classes_65 zc_i_1 ?_
    refine sm_bastore (pc := 66) dX9_classes_66 ?_
    refine sm_aload_n (pc := 67) (n := 0) dX9_classes_67 rfl ?_
    refine gf_X9_29 (pc := 68) rfl dX9_classes_68 ?_
    refine sm_iload_n (pc := 71) (n := 1) dX9_classes_71 rfl ?_
    refine sm_iconst (pc := 72) dX9_classes_72 zc_i_1 ?_
    exact scX9_classes_73 P r38 hr38
noncomputable def lX9_classes_7 {d : Nat} (P : zP d) (r7 : zK d) : zK d := (xild 1 (xald 0 (xgfI 25 0 (xcmp tle (xald 0 (xdup (xgfI 25 12 (xild 1 (xbin zmul (xpfI 25 12 (xinc 1 1 r7))))))) (xald 0 (xpI 0 (xpfI 25 11 (xpI 0 (xist 1 (xloop (fun r38 => (lX9_classes_38 P r38)) 100000))))))))))
set_option maxRecDepth 100000 in
set_option maxHeartbeats 4000000 in
theorem slX9_classes_7 {d : Nat} [zGh] (P : zP d) (r7 : zK d) (hr7 : zSim X_X9_classes 2 P 7 r7) : zSim X_X9_classes 2 P 7 (lX9_classes_7 P r7) := by
  unfold lX9_classes_7
  refine sm_iload_n (pc := 7) (n := 1) dX9_classes_7 rfl ?_
  refine sm_aload_n (pc := 8) (n := 0) dX9_classes_8 rfl ?_
  refine gf_X9_169 (pc := 9) rfl dX9_classes_9 ?_
  refine sm_icmp_gt (pc := 12) (tgt := 31) dX9_classes_12 (by decide) ?_ ?_
  · skip
    refine sm_aload_n (pc := 31) (n := 0) dX9_classes_31 rfl ?_
    refine sm_iconst (pc := 32) dX9_classes_32 zc_i_0 ?_
    refine pf_X9_172 (pc := 33) rfl dX9_classes_33 ?_
    refine sm_iconst (pc := 36) dX9_classes_36 zc_i_0 ?_
    refine sm_istore_n (pc := 37) (n := 1) dX9_classes_37 rfl ?_
    exact sm_loop (fun r38 hr38 => slX9_classes_38 P r38 hr38) _
  · skip
    refine sm_aload_n (pc := 15) (n := 0) dX9_classes_15 rfl ?_
    refine sm_dup (pc := 16) dX9_classes_16 ?_
    refine gf_X9_166 (pc := 17) rfl dX9_classes_17 ?_
    refine sm_iload_n (pc := 20) (n := 1) dX9_classes_20 rfl ?_
    refine sm_imul (pc := 21) dX9_classes_21 ?_
    refine pf_X9_166 (pc := 22) rfl dX9_classes_22 ?_
    refine sm_iinc (pc := 25) (n := 1) dX9_classes_25 zc_i_1 ?_
    refine sm_goto (pc := 28) (tgt := 7) dX9_classes_28 (by decide) ?_
    exact hr7
noncomputable def b_X9_classes {d : Nat} (P : zP d) : zK d := (xald 0 (xpI 1 (xpfI 25 12 (xpI 2 (xist 1 (xloop (fun r7 => (lX9_classes_7 P r7)) 100000))))))
set_option maxRecDepth 100000 in
set_option maxHeartbeats 4000000 in
theorem s_X9_classes {d : Nat} [zGh] (P : zP d) : zSim X_X9_classes 2 P 0 (b_X9_classes P) := by
  unfold b_X9_classes
  refine sm_aload_n (pc := 0) (n := 0) dX9_classes_0 rfl ?_
  refine sm_iconst (pc := 1) dX9_classes_1 zc_i_1 ?_
  refine pf_X9_166 (pc := 2) rfl dX9_classes_2 ?_
  refine sm_iconst (pc := 5) dX9_classes_5 zc_i_2 ?_
  refine sm_istore_n (pc := 6) (n := 1) dX9_classes_6 rfl ?_
  exact sm_loop (fun r7 hr7 => slX9_classes_7 P r7 hr7) _
noncomputable def f_X9_classes {d : Nat} : List zV → zH d → zP d → Bool := zfn 7 b_X9_classes
theorem m_X9_classes {d : Nat} : zMet (d := d) X_X9_classes yX9_classes 2 f_X9_classes := zmet_mk (X := X_X9_classes) (by decide) rfl rfl s_X9_classes

abbrev X_X9_beadsOf : zM := (RX9, cX9_beadsOf, 4, (some .int), "beadsOf")
noncomputable def lX9_beadsOf_4 {d : Nat} (P : zP d) (r4 : zK d) : zK d := (xild 3 (xpI 6 (xcmp tge (xild 2 (xiret P)) (xild 2 (xpI 1 (xald 0 (xild 1 (xild 3 (xcV 25 3 0 0 f_X9_partOf (xpI 5 (xbin zadd (xild 3 (xbin zsub (xbin zshl (xbin zor (xist 2 (xinc 3 1 r4)))))))))))))))))
set_option maxRecDepth 100000 in
set_option maxHeartbeats 4000000 in
theorem slX9_beadsOf_4 {d : Nat} [zGh] (P : zP d) (r4 : zK d) (hr4 : zSim X_X9_beadsOf 2 P 4 r4) : zSim X_X9_beadsOf 2 P 4 (lX9_beadsOf_4 P r4) := by
  unfold lX9_beadsOf_4
  refine sm_iload_n (pc := 4) (n := 3) dX9_beadsOf_4 rfl ?_
  refine sm_bipush (pc := 5) dX9_beadsOf_5 zc_b_6 ?_
  refine sm_icmp_ge (pc := 7) (tgt := 31) dX9_beadsOf_7 (by decide) ?_ ?_
  · skip
    refine sm_iload_n (pc := 31) (n := 2) dX9_beadsOf_31 rfl ?_
    exact sm_ireturn (pc := 32) dX9_beadsOf_32 rfl
  · skip
    refine sm_iload_n (pc := 10) (n := 2) dX9_beadsOf_10 rfl ?_
    refine sm_iconst (pc := 11) dX9_beadsOf_11 zc_i_1 ?_
    refine sm_aload_n (pc := 12) (n := 0) dX9_beadsOf_12 rfl ?_
    refine sm_iload_n (pc := 13) (n := 1) dX9_beadsOf_13 rfl ?_
    refine sm_iload_n (pc := 14) (n := 3) dX9_beadsOf_14 rfl ?_
    refine sm_cV (pc := 15) (ci := 9) (n := 3) (mc := 0) (ms := 0) rfl m_X9_partOf (cr_X9_175 (X := X_X9_beadsOf) (fr := 2) (frc := 1) (pc := 15) (mc := 0) (ms := 0) rfl (by decide) dX9_beadsOf_15) ?_
    refine sm_iconst (pc := 18) dX9_beadsOf_18 zc_i_5 ?_
    refine sm_iadd (pc := 19) dX9_beadsOf_19 ?_
    refine sm_iload_n (pc := 20) (n := 3) dX9_beadsOf_20 rfl ?_
    refine sm_isub (pc := 21) dX9_beadsOf_21 ?_
    refine sm_ishl (pc := 22) dX9_beadsOf_22 ?_
    refine sm_ior (pc := 23) dX9_beadsOf_23 ?_
    refine sm_istore_n (pc := 24) (n := 2) dX9_beadsOf_24 rfl ?_
    refine sm_iinc (pc := 25) (n := 3) dX9_beadsOf_25 zc_i_1 ?_
    refine sm_goto (pc := 28) (tgt := 4) dX9_beadsOf_28 (by decide) ?_
    exact hr4
noncomputable def b_X9_beadsOf {d : Nat} (P : zP d) : zK d := (xpI 0 (xist 2 (xpI 0 (xist 3 (xloop (fun r4 => (lX9_beadsOf_4 P r4)) 100000)))))
set_option maxRecDepth 100000 in
set_option maxHeartbeats 4000000 in
theorem s_X9_beadsOf {d : Nat} [zGh] (P : zP d) : zSim X_X9_beadsOf 2 P 0 (b_X9_beadsOf P) := by
  unfold b_X9_beadsOf
  refine sm_iconst (pc := 0) dX9_beadsOf_0 zc_i_0 ?_
  refine sm_istore_n (pc := 1) (n := 2) dX9_beadsOf_1 rfl ?_
  refine sm_iconst (pc := 2) dX9_beadsOf_2 zc_i_0 ?_
  refine sm_istore_n (pc := 3) (n := 3) dX9_beadsOf_3 rfl ?_
  exact sm_loop (fun r4 hr4 => slX9_beadsOf_4 P r4 hr4) _
noncomputable def f_X9_beadsOf {d : Nat} : List zV → zH d → zP d → Bool := zfn 4 b_X9_beadsOf
theorem m_X9_beadsOf {d : Nat} : zMet (d := d) X_X9_beadsOf yX9_beadsOf 2 f_X9_beadsOf := zmet_mk (X := X_X9_beadsOf) (by decide) rfl rfl s_X9_beadsOf
end
section
/-! the reference, by program -/
abbrev X_X9_charOf : zM := (RX9, cX9_charOf, 9, (some .int), "charOf")
noncomputable def bX9_charOf_128 {d : Nat} (self : List zV → zH d → zP d → Bool) (P : zP d) (r27 : zK d) : zK d := (xinc 6 1 r27)
set_option maxRecDepth 100000 in
set_option maxHeartbeats 4000000 in
theorem sbX9_charOf_128 {d : Nat} [zGh] (n : Nat) (self : List zV → zH d → zP d → Bool) (hself : zMet X_X9_charOf yX9_charOf (1 + n) self) (P : zP d) (r27 : zK d) (hr27 : zSim X_X9_charOf (1 + (n + 1)) P 27 r27) : zSim X_X9_charOf (1 + (n + 1)) P 128 (bX9_charOf_128 self P r27) := by
  unfold bX9_charOf_128
  refine sm_iinc (pc := 128) (n := 6) dX9_charOf_128 zc_i_1 ?_
  refine sm_goto (pc := 131) (tgt := 27) dX9_charOf_131 (by decide) ?_
  exact hr27
noncomputable def bX9_charOf_125 {d : Nat} (self : List zV → zH d → zP d → Bool) (P : zP d) (j128 : zK d) : zK d := (xbin zadd (xist 5 j128))
set_option maxRecDepth 100000 in
set_option maxHeartbeats 4000000 in
theorem sbX9_charOf_125 {d : Nat} [zGh] (n : Nat) (self : List zV → zH d → zP d → Bool) (hself : zMet X_X9_charOf yX9_charOf (1 + n) self) (P : zP d) (j128 : zK d) (hj128 : zSim X_X9_charOf (1 + (n + 1)) P 128 j128) : zSim X_X9_charOf (1 + (n + 1)) P 125 (bX9_charOf_125 self P j128) := by
  unfold bX9_charOf_125
  refine sm_iadd (pc := 125) dX9_charOf_125 ?_
  refine sm_istore (pc := 126) (n := 5) dX9_charOf_126 ?_
  exact hj128
noncomputable def cX9_charOf_96 {d : Nat} (self : List zV → zH d → zP d → Bool) (P : zP d) (j128 : zK d) : zK d := (xild 2 (xild 3 (xpI 1 (xbin zadd (xcV 25 4 0 0 self (xist 8 (xild 5 (xild 7 (xcS 1 0 0 f_X9_bits (xpI 2 (xbinN zrem (xjoin (bX9_charOf_125 self P j128) (fun j125 => (xif0 t0eq (xild 8 j125) (xild 8 (xun zneg j125))))))))))))))))
set_option maxRecDepth 100000 in
set_option maxHeartbeats 4000000 in
theorem scX9_charOf_96 {d : Nat} [zGh] (n : Nat) (self : List zV → zH d → zP d → Bool) (hself : zMet X_X9_charOf yX9_charOf (1 + n) self) (P : zP d) (j128 : zK d) (hj128 : zSim X_X9_charOf (1 + (n + 1)) P 128 j128) : zSim X_X9_charOf (1 + (n + 1)) P 96 (cX9_charOf_96 self P j128) := by
  unfold cX9_charOf_96
  refine sm_iload_n (pc := 96) (n := 2) dX9_charOf_96 rfl ?_
  refine sm_iload_n (pc := 97) (n := 3) dX9_charOf_97 rfl ?_
  refine sm_iconst (pc := 98) dX9_charOf_98 zc_i_1 ?_
  refine sm_iadd (pc := 99) dX9_charOf_99 ?_
  refine sm_cV (pc := 100) (ci := 9) (n := 4) (mc := 0) (ms := 0) rfl hself (cr_X9_191 (X := X_X9_charOf) (fr := 1 + (n + 1)) (frc := 1 + n) (pc := 100) (mc := 0) (ms := 0) rfl (by omega) dX9_charOf_100) ?_
  refine sm_istore (pc := 103) (n := 8) dX9_charOf_103 ?_
  refine sm_iload (pc := 105) (n := 5) dX9_charOf_105 ?_
  refine sm_iload (pc := 107) (n := 7) dX9_charOf_107 ?_
  refine sm_cS (pc := 109) (n := 1) (mc := 0) (ms := 0) m_X9_bits (cr_X9_195 (X := X_X9_charOf) (fr := 1 + (n + 1)) (frc := 1) (pc := 109) (mc := 0) (ms := 0) rfl (by omega) dX9_charOf_109) ?_
  refine sm_iconst (pc := 112) dX9_charOf_112 zc_i_2 ?_
  refine sm_irem (pc := 113) dX9_charOf_113 ?_
  refine sm_join (pc := 114) (pc' := 125) (sbX9_charOf_125 n self hself P j128 hj128) (fun j125 hj125 => ?_)
  refine sm_if_ne (pc := 114) (tgt := 122) dX9_charOf_114 (by decide) ?_ ?_
  · skip
    refine sm_iload (pc := 122) (n := 8) dX9_charOf_122 ?_
    refine sm_ineg (pc := 124) dX9_charOf_124 ?_
    exact hj125
  · skip
    refine sm_iload (pc := 117) (n := 8) dX9_charOf_117 ?_
    refine sm_goto (pc := 119) (tgt := 125) dX9_charOf_119 (by decide) ?_
    exact hj125
noncomputable def cX9_charOf_67 {d : Nat} (self : List zV → zH d → zP d → Bool) (P : zP d) (j128 : zK d) : zK d := (xbin zshr (xpI 1 (xild 4 (xpI 1 (xbin zsub (xbin zshl (xpI 1 (xbin zsub (xbin zand (xist 7 (xald 0 (xild 1 (xpI 1 (xild 6 (xbin zshl (xpI 4294967295 (xbin zxor (xbin zand (xpI 1 (xild 6 (xild 4 (xbin zsub (xbin zshl (xbin zor (cX9_charOf_96 self P j128)))))))))))))))))))))))))
set_option maxRecDepth 100000 in
set_option maxHeartbeats 4000000 in
theorem scX9_charOf_67 {d : Nat} [zGh] (n : Nat) (self : List zV → zH d → zP d → Bool) (hself : zMet X_X9_charOf yX9_charOf (1 + n) self) (P : zP d) (j128 : zK d) (hj128 : zSim X_X9_charOf (1 + (n + 1)) P 128 j128) : zSim X_X9_charOf (1 + (n + 1)) P 67 (cX9_charOf_67 self P j128) := by
  unfold cX9_charOf_67
  refine sm_ishr (pc := 67) dX9_charOf_67 ?_
  refine sm_iconst (pc := 68) dX9_charOf_68 zc_i_1 ?_
  refine sm_iload (pc := 69) (n := 4) dX9_charOf_69 ?_
  refine sm_iconst (pc := 71) dX9_charOf_71 zc_i_1 ?_
  refine sm_isub (pc := 72) dX9_charOf_72 ?_
  refine sm_ishl (pc := 73) dX9_charOf_73 ?_
  refine sm_iconst (pc := 74) dX9_charOf_74 zc_i_1 ?_
  refine sm_isub (pc := 75) dX9_charOf_75 ?_
  refine sm_iand (pc := 76) dX9_charOf_76 ?_
  refine sm_istore (pc := 77) (n := 7) dX9_charOf_77 ?_
  refine sm_aload_n (pc := 79) (n := 0) dX9_charOf_79 rfl ?_
  refine sm_iload_n (pc := 80) (n := 1) dX9_charOf_80 rfl ?_
  refine sm_iconst (pc := 81) dX9_charOf_81 zc_i_1 ?_
  refine sm_iload (pc := 82) (n := 6) dX9_charOf_82 ?_
  refine sm_ishl (pc := 84) dX9_charOf_84 ?_
  refine sm_iconst (pc := 85) dX9_charOf_85 zc_i_m1 ?_
  refine sm_ixor (pc := 86) dX9_charOf_86 ?_
  refine sm_iand (pc := 87) dX9_charOf_87 ?_
  refine sm_iconst (pc := 88) dX9_charOf_88 zc_i_1 ?_
  refine sm_iload (pc := 89) (n := 6) dX9_charOf_89 ?_
  refine sm_iload (pc := 91) (n := 4) dX9_charOf_91 ?_
  refine sm_isub (pc := 93) dX9_charOf_93 ?_
  refine sm_ishl (pc := 94) dX9_charOf_94 ?_
  refine sm_ior (pc := 95) dX9_charOf_95 ?_
  exact scX9_charOf_96 n self hself P j128 hj128
noncomputable def lX9_charOf_27 {d : Nat} (self : List zV → zH d → zP d → Bool) (P : zP d) (r27 : zK d) : zK d := (xild 6 (xpI 12 (xcmp tge (xild 5 (xiret P)) (xild 1 (xild 6 (xbin zshr (xpI 1 (xbin zand (xjoin (bX9_charOf_128 self P r27) (fun j128 => (xif0 t0eq j128 (xild 1 (xild 6 (xild 4 (xbin zsub (xbin zshr (xpI 1 (xbin zand (xpI 1 (xcmp Nat.beq j128 (xild 1 (xild 6 (xild 4 (xbin zsub (xpI 1 (xbin zadd (cX9_charOf_67 self P j128)))))))))))))))))))))))))))
set_option maxRecDepth 100000 in
set_option maxHeartbeats 4000000 in
theorem slX9_charOf_27 {d : Nat} [zGh] (n : Nat) (self : List zV → zH d → zP d → Bool) (hself : zMet X_X9_charOf yX9_charOf (1 + n) self) (P : zP d) (r27 : zK d) (hr27 : zSim X_X9_charOf (1 + (n + 1)) P 27 r27) : zSim X_X9_charOf (1 + (n + 1)) P 27 (lX9_charOf_27 self P r27) := by
  unfold lX9_charOf_27
  refine sm_iload (pc := 27) (n := 6) dX9_charOf_27 ?_
  refine sm_bipush (pc := 29) dX9_charOf_29 zc_b_12 ?_
  refine sm_icmp_ge (pc := 31) (tgt := 134) dX9_charOf_31 (by decide) ?_ ?_
  · skip
    refine sm_iload (pc := 134) (n := 5) dX9_charOf_134 ?_
    exact sm_ireturn (pc := 136) dX9_charOf_136 rfl
  · skip
    refine sm_iload_n (pc := 34) (n := 1) dX9_charOf_34 rfl ?_
    refine sm_iload (pc := 35) (n := 6) dX9_charOf_35 ?_
    refine sm_ishr (pc := 37) dX9_charOf_37 ?_
    refine sm_iconst (pc := 38) dX9_charOf_38 zc_i_1 ?_
    refine sm_iand (pc := 39) dX9_charOf_39 ?_
    refine sm_join (pc := 40) (pc' := 128) (sbX9_charOf_128 n self hself P r27 hr27) (fun j128 hj128 => ?_)
    refine sm_if_eq (pc := 40) (tgt := 128) dX9_charOf_40 (by decide) ?_ ?_
    · skip
      exact hj128
    · skip
      refine sm_iload_n (pc := 43) (n := 1) dX9_charOf_43 rfl ?_
      refine sm_iload (pc := 44) (n := 6) dX9_charOf_44 ?_
      refine sm_iload (pc := 46) (n := 4) dX9_charOf_46 ?_
      refine sm_isub (pc := 48) dX9_charOf_48 ?_
      refine sm_ishr (pc := 49) dX9_charOf_49 ?_
      refine sm_iconst (pc := 50) dX9_charOf_50 zc_i_1 ?_
      refine sm_iand (pc := 51) dX9_charOf_51 ?_
      refine sm_iconst (pc := 52) dX9_charOf_52 zc_i_1 ?_
      refine sm_icmp_ne (pc := 53) (tgt := 59) dX9_charOf_53 (by decide) ?_ ?_
      · skip
        refine sm_iload_n (pc := 59) (n := 1) dX9_charOf_59 rfl ?_
        refine sm_iload (pc := 60) (n := 6) dX9_charOf_60 ?_
        refine sm_iload (pc := 62) (n := 4) dX9_charOf_62 ?_
        refine sm_isub (pc := 64) dX9_charOf_64 ?_
        refine sm_iconst (pc := 65) dX9_charOf_65 zc_i_1 ?_
        refine sm_iadd (pc := 66) dX9_charOf_66 ?_
        exact scX9_charOf_67 n self hself P j128 hj128
      · skip
        refine sm_goto (pc := 56) (tgt := 128) dX9_charOf_56 (by decide) ?_
        exact hj128
noncomputable def b_X9_charOf {d : Nat} (self : List zV → zH d → zP d → Bool) (P : zP d) : zK d := (xild 3 (xald 0 (xgfR 25 4 (xild 2 (xald1 0 (xcmp Nat.beq (xpI 1 (xiret P)) (xald 0 (xild 2 (xild 3 (xcV 25 3 0 0 f_X9_partOf (xist 4 (xpI 0 (xist 5 (xild 4 (xist 6 (xloop (fun r27 => (lX9_charOf_27 self P r27)) 100000))))))))))))))))
set_option maxRecDepth 100000 in
set_option maxHeartbeats 4000000 in
theorem s_X9_charOf {d : Nat} [zGh] (n : Nat) (self : List zV → zH d → zP d → Bool) (hself : zMet X_X9_charOf yX9_charOf (1 + n) self) (P : zP d) : zSim X_X9_charOf (1 + (n + 1)) P 0 (b_X9_charOf self P) := by
  unfold b_X9_charOf
  refine sm_iload_n (pc := 0) (n := 3) dX9_charOf_0 rfl ?_
  refine sm_aload_n (pc := 1) (n := 0) dX9_charOf_1 rfl ?_
  refine gf_X9_13 (pc := 2) rfl dX9_charOf_2 ?_
  refine sm_iload_n (pc := 5) (n := 2) dX9_charOf_5 rfl ?_
  refine sm_iaload (pc := 6) dX9_charOf_6 ?_
  refine sm_icmp_ne (pc := 7) (tgt := 12) dX9_charOf_7 (by decide) ?_ ?_
  · skip
    refine sm_aload_n (pc := 12) (n := 0) dX9_charOf_12 rfl ?_
    refine sm_iload_n (pc := 13) (n := 2) dX9_charOf_13 rfl ?_
    refine sm_iload_n (pc := 14) (n := 3) dX9_charOf_14 rfl ?_
    refine sm_cV (pc := 15) (ci := 9) (n := 3) (mc := 0) (ms := 0) rfl m_X9_partOf (cr_X9_175 (X := X_X9_charOf) (fr := 1 + (n + 1)) (frc := 1) (pc := 15) (mc := 0) (ms := 0) rfl (by omega) dX9_charOf_15) ?_
    refine sm_istore (pc := 18) (n := 4) dX9_charOf_18 ?_
    refine sm_iconst (pc := 20) dX9_charOf_20 zc_i_0 ?_
    refine sm_istore (pc := 21) (n := 5) dX9_charOf_21 ?_
    refine sm_iload (pc := 23) (n := 4) dX9_charOf_23 ?_
    refine sm_istore (pc := 25) (n := 6) dX9_charOf_25 ?_
    exact sm_loop (fun r27 hr27 => slX9_charOf_27 n self hself P r27 hr27) _
  · skip
    refine sm_iconst (pc := 10) dX9_charOf_10 zc_i_1 ?_
    exact sm_ireturn (pc := 11) dX9_charOf_11 rfl
noncomputable def f_X9_charOf {d : Nat} : List zV → zH d → zP d → Bool := zrec 9 b_X9_charOf 8
theorem m_X9_charOf {d : Nat} : zMet (d := d) X_X9_charOf yX9_charOf 9 f_X9_charOf := zmet_rec (X := X_X9_charOf) (fr := 1) (by decide) rfl rfl (fun n f hf _ P => s_X9_charOf n f hf P) 8

abbrev X_X9_cores : zM := (RX9, cX9_cores, 5, none, "cores")
noncomputable def bX9_cores_212 {d : Nat} (P : zP d) (r7 : zK d) : zK d := (xinc 1 1 r7)
set_option maxRecDepth 100000 in
set_option maxHeartbeats 4000000 in
theorem sbX9_cores_212 {d : Nat} [zGh] (P : zP d) (r7 : zK d) (hr7 : zSim X_X9_cores 3 P 7 r7) : zSim X_X9_cores 3 P 212 (bX9_cores_212 P r7) := by
  unfold bX9_cores_212
  refine sm_iinc (pc := 212) (n := 1) dX9_cores_212 zc_i_1 ?_
  refine sm_goto (pc := 215) (tgt := 7) dX9_cores_215 (by decide) ?_
  exact hr7
noncomputable def cX9_cores_207 {d : Nat} (P : zP d) (j212 : zK d) : zK d := (xpI 1 (xbin zadd (xpfI 25 18 j212)))
set_option maxRecDepth 100000 in
set_option maxHeartbeats 4000000 in
theorem scX9_cores_207 {d : Nat} [zGh] (P : zP d) (j212 : zK d) (hj212 : zSim X_X9_cores 3 P 212 j212) : zSim X_X9_cores 3 P 207 (cX9_cores_207 P j212) := by
  unfold cX9_cores_207
  refine sm_iconst (pc := 207) dX9_cores_207 zc_i_1 ?_
  refine sm_iadd (pc := 208) dX9_cores_208 ?_
  refine pf_X9_199 (pc := 209) rfl dX9_cores_209 ?_
  exact hj212
noncomputable def bX9_cores_163 {d : Nat} (P : zP d) (r133 : zK d) : zK d := (xinc 4 1 r133)
set_option maxRecDepth 100000 in
set_option maxHeartbeats 4000000 in
theorem sbX9_cores_163 {d : Nat} [zGh] (P : zP d) (r133 : zK d) (hr133 : zSim X_X9_cores 3 P 133 r133) : zSim X_X9_cores 3 P 163 (bX9_cores_163 P r133) := by
  unfold bX9_cores_163
  refine sm_iinc (pc := 163) (n := 4) dX9_cores_163 zc_i_1 ?_
  refine sm_goto (pc := 166) (tgt := 133) dX9_cores_166 (by decide) ?_
  exact hr133
noncomputable def lX9_cores_133 {d : Nat} (P : zP d) (r133 : zK d) (r7 : zK d) : zK d := (xild 4 (xild 1 (xcmp tge (xald 0 (xgfR 25 17 (xild 1 (xald1 0 (xpI 4294967295 (xjoin (bX9_cores_212 P r7) (fun j212 => (xcmp Nat.beq (xald 0 (xgfR 25 17 (xild 1 (xald 0 (xgfI 25 18 (xast1 0 (fun v => v) (xald 0 (xgfR 25 19 (xald 0 (xgfI 25 18 (xild 1 (xast1 0 (fun v => v) (xald 0 (xdup (xgfI 25 18 (cX9_cores_207 P j212)))))))))))))))) j212)))))))) (xald 0 (xgfR 25 16 (xild 4 (xald1 0 (xild 2 (xjoin (bX9_cores_163 P r133) (fun j163 => (xcmp Nat.beq (xald 0 (xgfR 25 17 (xild 1 (xald 0 (xgfR 25 17 (xild 4 (xald1 0 (xast1 0 (fun v => v) j163)))))))) j163)))))))))))
set_option maxRecDepth 100000 in
set_option maxHeartbeats 4000000 in
theorem slX9_cores_133 {d : Nat} [zGh] (P : zP d) (r133 : zK d) (r7 : zK d) (hr133 : zSim X_X9_cores 3 P 133 r133) (hr7 : zSim X_X9_cores 3 P 7 r7) : zSim X_X9_cores 3 P 133 (lX9_cores_133 P r133 r7) := by
  unfold lX9_cores_133
  refine sm_iload (pc := 133) (n := 4) dX9_cores_133 ?_
  refine sm_iload_n (pc := 135) (n := 1) dX9_cores_135 rfl ?_
  refine sm_icmp_ge (pc := 136) (tgt := 169) dX9_cores_136 (by decide) ?_ ?_
  · skip
    refine sm_aload_n (pc := 169) (n := 0) dX9_cores_169 rfl ?_
    refine gf_X9_47 (pc := 170) rfl dX9_cores_170 ?_
    refine sm_iload_n (pc := 173) (n := 1) dX9_cores_173 rfl ?_
    refine sm_iaload (pc := 174) dX9_cores_174 ?_
    refine sm_iconst (pc := 175) dX9_cores_175 zc_i_m1 ?_
    refine sm_join (pc := 176) (pc' := 212) (sbX9_cores_212 P r7 hr7) (fun j212 hj212 => ?_)
    refine sm_icmp_eq (pc := 176) (tgt := 182) dX9_cores_176 (by decide) ?_ ?_
    · skip
      refine sm_aload_n (pc := 182) (n := 0) dX9_cores_182 rfl ?_
      refine gf_X9_47 (pc := 183) rfl dX9_cores_183 ?_
      refine sm_iload_n (pc := 186) (n := 1) dX9_cores_186 rfl ?_
      refine sm_aload_n (pc := 187) (n := 0) dX9_cores_187 rfl ?_
      refine gf_X9_199 (pc := 188) rfl dX9_cores_188 ?_
      refine sm_iastore (pc := 191) dX9_cores_191 ?_
      refine sm_aload_n (pc := 192) (n := 0) dX9_cores_192 rfl ?_
      refine gf_X9_50 (pc := 193) rfl dX9_cores_193 ?_
      refine sm_aload_n (pc := 196) (n := 0) dX9_cores_196 rfl ?_
      refine gf_X9_199 (pc := 197) rfl dX9_cores_197 ?_
      refine sm_iload_n (pc := 200) (n := 1) dX9_cores_200 rfl ?_
      refine sm_iastore (pc := 201) dX9_cores_201 ?_
      refine sm_aload_n (pc := 202) (n := 0) dX9_cores_202 rfl ?_
      refine sm_dup (pc := 203) dX9_cores_203 ?_
      refine gf_X9_199 (pc := 204) rfl dX9_cores_204 ?_
      exact scX9_cores_207 P j212 hj212
    · skip
      refine sm_goto (pc := 179) (tgt := 212) dX9_cores_179 (by decide) ?_
      exact hj212
  · skip
    refine sm_aload_n (pc := 139) (n := 0) dX9_cores_139 rfl ?_
    refine gf_X9_44 (pc := 140) rfl dX9_cores_140 ?_
    refine sm_iload (pc := 143) (n := 4) dX9_cores_143 ?_
    refine sm_iaload (pc := 145) dX9_cores_145 ?_
    refine sm_iload_n (pc := 146) (n := 2) dX9_cores_146 rfl ?_
    refine sm_join (pc := 147) (pc' := 163) (sbX9_cores_163 P r133 hr133) (fun j163 hj163 => ?_)
    refine sm_icmp_ne (pc := 147) (tgt := 163) dX9_cores_147 (by decide) ?_ ?_
    · skip
      exact hj163
    · skip
      refine sm_aload_n (pc := 150) (n := 0) dX9_cores_150 rfl ?_
      refine gf_X9_47 (pc := 151) rfl dX9_cores_151 ?_
      refine sm_iload_n (pc := 154) (n := 1) dX9_cores_154 rfl ?_
      refine sm_aload_n (pc := 155) (n := 0) dX9_cores_155 rfl ?_
      refine gf_X9_47 (pc := 156) rfl dX9_cores_156 ?_
      refine sm_iload (pc := 159) (n := 4) dX9_cores_159 ?_
      refine sm_iaload (pc := 161) dX9_cores_161 ?_
      refine sm_iastore (pc := 162) dX9_cores_162 ?_
      exact hj163
noncomputable def bX9_cores_107 {d : Nat} (P : zP d) (r42 : zK d) : zK d := (xinc 4 1 r42)
set_option maxRecDepth 100000 in
set_option maxHeartbeats 4000000 in
theorem sbX9_cores_107 {d : Nat} [zGh] (P : zP d) (r42 : zK d) (hr42 : zSim X_X9_cores 3 P 42 r42) : zSim X_X9_cores 3 P 107 (bX9_cores_107 P r42) := by
  unfold bX9_cores_107
  refine sm_iinc (pc := 107) (n := 4) dX9_cores_107 zc_i_1 ?_
  refine sm_goto (pc := 110) (tgt := 42) dX9_cores_110 (by decide) ?_
  exact hr42
noncomputable def cX9_cores_82 {d : Nat} (P : zP d) (j107 : zK d) : zK d := (xbin zxor (xbin zand (xpI 1 (xild 4 (xald 0 (xgfI 25 1 (xbin zsub (xbin zshl (xbin zor (xist 2 (xald 0 (xgfR 25 15 (xild 1 (xdup2 (xald1 0 (xpI 1 (xbin zadd (xast1 0 (fun v => v) (xpI 1 (xist 3 j107))))))))))))))))))))
set_option maxRecDepth 100000 in
set_option maxHeartbeats 4000000 in
theorem scX9_cores_82 {d : Nat} [zGh] (P : zP d) (j107 : zK d) (hj107 : zSim X_X9_cores 3 P 107 j107) : zSim X_X9_cores 3 P 82 (cX9_cores_82 P j107) := by
  unfold cX9_cores_82
  refine sm_ixor (pc := 82) dX9_cores_82 ?_
  refine sm_iand (pc := 83) dX9_cores_83 ?_
  refine sm_iconst (pc := 84) dX9_cores_84 zc_i_1 ?_
  refine sm_iload (pc := 85) (n := 4) dX9_cores_85 ?_
  refine sm_aload_n (pc := 87) (n := 0) dX9_cores_87 rfl ?_
  refine gf_X9_184 (pc := 88) rfl dX9_cores_88 ?_
  refine sm_isub (pc := 91) dX9_cores_91 ?_
  refine sm_ishl (pc := 92) dX9_cores_92 ?_
  refine sm_ior (pc := 93) dX9_cores_93 ?_
  refine sm_istore_n (pc := 94) (n := 2) dX9_cores_94 rfl ?_
  refine sm_aload_n (pc := 95) (n := 0) dX9_cores_95 rfl ?_
  refine gf_X9_41 (pc := 96) rfl dX9_cores_96 ?_
  refine sm_iload_n (pc := 99) (n := 1) dX9_cores_99 rfl ?_
  refine sm_dup2 (pc := 100) dX9_cores_100 ?_
  refine sm_iaload (pc := 101) dX9_cores_101 ?_
  refine sm_iconst (pc := 102) dX9_cores_102 zc_i_1 ?_
  refine sm_iadd (pc := 103) dX9_cores_103 ?_
  refine sm_iastore (pc := 104) dX9_cores_104 ?_
  refine sm_iconst (pc := 105) dX9_cores_105 zc_i_1 ?_
  refine sm_istore_n (pc := 106) (n := 3) dX9_cores_106 rfl ?_
  exact hj107
noncomputable def lX9_cores_42 {d : Nat} (P : zP d) (r30 : zK d) (r42 : zK d) : zK d := (xild 4 (xpI 12 (xcmp tge r30 (xild 2 (xild 4 (xbin zshr (xpI 1 (xbin zand (xjoin (bX9_cores_107 P r42) (fun j107 => (xif0 t0eq j107 (xild 2 (xild 4 (xald 0 (xgfI 25 1 (xbin zsub (xbin zshr (xpI 1 (xbin zand (xpI 1 (xcmp Nat.beq j107 (xild 2 (xpI 1 (xild 4 (xbin zshl (xpI 4294967295 (cX9_cores_82 P j107)))))))))))))))))))))))))))
set_option maxRecDepth 100000 in
set_option maxHeartbeats 4000000 in
theorem slX9_cores_42 {d : Nat} [zGh] (P : zP d) (r30 : zK d) (r42 : zK d) (hr30 : zSim X_X9_cores 3 P 30 r30) (hr42 : zSim X_X9_cores 3 P 42 r42) : zSim X_X9_cores 3 P 42 (lX9_cores_42 P r30 r42) := by
  unfold lX9_cores_42
  refine sm_iload (pc := 42) (n := 4) dX9_cores_42 ?_
  refine sm_bipush (pc := 44) dX9_cores_44 zc_b_12 ?_
  refine sm_icmp_ge (pc := 46) (tgt := 113) dX9_cores_46 (by decide) ?_ ?_
  · skip
    refine sm_goto (pc := 113) (tgt := 30) dX9_cores_113 (by decide) ?_
    exact hr30
  · skip
    refine sm_iload_n (pc := 49) (n := 2) dX9_cores_49 rfl ?_
    refine sm_iload (pc := 50) (n := 4) dX9_cores_50 ?_
    refine sm_ishr (pc := 52) dX9_cores_52 ?_
    refine sm_iconst (pc := 53) dX9_cores_53 zc_i_1 ?_
    refine sm_iand (pc := 54) dX9_cores_54 ?_
    refine sm_join (pc := 55) (pc' := 107) (sbX9_cores_107 P r42 hr42) (fun j107 hj107 => ?_)
    refine sm_if_eq (pc := 55) (tgt := 107) dX9_cores_55 (by decide) ?_ ?_
    · skip
      exact hj107
    · skip
      refine sm_iload_n (pc := 58) (n := 2) dX9_cores_58 rfl ?_
      refine sm_iload (pc := 59) (n := 4) dX9_cores_59 ?_
      refine sm_aload_n (pc := 61) (n := 0) dX9_cores_61 rfl ?_
      refine gf_X9_184 (pc := 62) rfl dX9_cores_62 ?_
      refine sm_isub (pc := 65) dX9_cores_65 ?_
      refine sm_ishr (pc := 66) dX9_cores_66 ?_
      refine sm_iconst (pc := 67) dX9_cores_67 zc_i_1 ?_
      refine sm_iand (pc := 68) dX9_cores_68 ?_
      refine sm_iconst (pc := 69) dX9_cores_69 zc_i_1 ?_
      refine sm_icmp_ne (pc := 70) (tgt := 76) dX9_cores_70 (by decide) ?_ ?_
      · skip
        refine sm_iload_n (pc := 76) (n := 2) dX9_cores_76 rfl ?_
        refine sm_iconst (pc := 77) dX9_cores_77 zc_i_1 ?_
        refine sm_iload (pc := 78) (n := 4) dX9_cores_78 ?_
        refine sm_ishl (pc := 80) dX9_cores_80 ?_
        refine sm_iconst (pc := 81) dX9_cores_81 zc_i_m1 ?_
        exact scX9_cores_82 P j107 hj107
      · skip
        refine sm_goto (pc := 73) (tgt := 107) dX9_cores_73 (by decide) ?_
        exact hj107
noncomputable def lX9_cores_30 {d : Nat} (P : zP d) (r30 : zK d) (r7 : zK d) : zK d := (xild 3 (xif0 t0eq (xald 0 (xgfR 25 16 (xild 1 (xild 2 (xast1 0 (fun v => v) (xald 0 (xgfR 25 17 (xild 1 (xpI 4294967295 (xast1 0 (fun v => v) (xpI 0 (xist 4 (xloop (fun r133 => (lX9_cores_133 P r133 r7)) 100000))))))))))))) (xpI 0 (xist 3 (xald 0 (xgfI 25 1 (xist 4 (xloop (fun r42 => (lX9_cores_42 P r30 r42)) 100000))))))))
set_option maxRecDepth 100000 in
set_option maxHeartbeats 4000000 in
theorem slX9_cores_30 {d : Nat} [zGh] (P : zP d) (r30 : zK d) (r7 : zK d) (hr30 : zSim X_X9_cores 3 P 30 r30) (hr7 : zSim X_X9_cores 3 P 7 r7) : zSim X_X9_cores 3 P 30 (lX9_cores_30 P r30 r7) := by
  unfold lX9_cores_30
  refine sm_iload_n (pc := 30) (n := 3) dX9_cores_30 rfl ?_
  refine sm_if_eq (pc := 31) (tgt := 116) dX9_cores_31 (by decide) ?_ ?_
  · skip
    refine sm_aload_n (pc := 116) (n := 0) dX9_cores_116 rfl ?_
    refine gf_X9_44 (pc := 117) rfl dX9_cores_117 ?_
    refine sm_iload_n (pc := 120) (n := 1) dX9_cores_120 rfl ?_
    refine sm_iload_n (pc := 121) (n := 2) dX9_cores_121 rfl ?_
    refine sm_iastore (pc := 122) dX9_cores_122 ?_
    refine sm_aload_n (pc := 123) (n := 0) dX9_cores_123 rfl ?_
    refine gf_X9_47 (pc := 124) rfl dX9_cores_124 ?_
    refine sm_iload_n (pc := 127) (n := 1) dX9_cores_127 rfl ?_
    refine sm_iconst (pc := 128) dX9_cores_128 zc_i_m1 ?_
    refine sm_iastore (pc := 129) dX9_cores_129 ?_
    refine sm_iconst (pc := 130) dX9_cores_130 zc_i_0 ?_
    refine sm_istore (pc := 131) (n := 4) dX9_cores_131 ?_
    exact sm_loop (fun r133 hr133 => slX9_cores_133 P r133 r7 hr133 hr7) _
  · skip
    refine sm_iconst (pc := 34) dX9_cores_34 zc_i_0 ?_
    refine sm_istore_n (pc := 35) (n := 3) dX9_cores_35 rfl ?_
    refine sm_aload_n (pc := 36) (n := 0) dX9_cores_36 rfl ?_
    refine gf_X9_184 (pc := 37) rfl dX9_cores_37 ?_
    refine sm_istore (pc := 40) (n := 4) dX9_cores_40 ?_
    exact sm_loop (fun r42 hr42 => slX9_cores_42 P r30 r42 hr30 hr42) _
noncomputable def lX9_cores_7 {d : Nat} (P : zP d) (r7 : zK d) : zK d := (xild 1 (xald 0 (xgfI 25 2 (xcmp tge (xvret P) (xald 0 (xild 1 (xcV 25 2 0 0 f_X9_beadsOf (xist 2 (xald 0 (xgfR 25 15 (xild 1 (xpI 0 (xast1 0 (fun v => v) (xpI 1 (xist 3 (xloop (fun r30 => (lX9_cores_30 P r30 r7)) 100000))))))))))))))))
set_option maxRecDepth 100000 in
set_option maxHeartbeats 4000000 in
theorem slX9_cores_7 {d : Nat} [zGh] (P : zP d) (r7 : zK d) (hr7 : zSim X_X9_cores 3 P 7 r7) : zSim X_X9_cores 3 P 7 (lX9_cores_7 P r7) := by
  unfold lX9_cores_7
  refine sm_iload_n (pc := 7) (n := 1) dX9_cores_7 rfl ?_
  refine sm_aload_n (pc := 8) (n := 0) dX9_cores_8 rfl ?_
  refine gf_X9_153 (pc := 9) rfl dX9_cores_9 ?_
  refine sm_icmp_ge (pc := 12) (tgt := 218) dX9_cores_12 (by decide) ?_ ?_
  · skip
    exact sm_vreturn (pc := 218) dX9_cores_218 rfl
  · skip
    refine sm_aload_n (pc := 15) (n := 0) dX9_cores_15 rfl ?_
    refine sm_iload_n (pc := 16) (n := 1) dX9_cores_16 rfl ?_
    refine sm_cV (pc := 17) (ci := 9) (n := 2) (mc := 0) (ms := 0) rfl m_X9_beadsOf (cr_X9_202 (X := X_X9_cores) (fr := 3) (frc := 2) (pc := 17) (mc := 0) (ms := 0) rfl (by decide) dX9_cores_17) ?_
    refine sm_istore_n (pc := 20) (n := 2) dX9_cores_20 rfl ?_
    refine sm_aload_n (pc := 21) (n := 0) dX9_cores_21 rfl ?_
    refine gf_X9_41 (pc := 22) rfl dX9_cores_22 ?_
    refine sm_iload_n (pc := 25) (n := 1) dX9_cores_25 rfl ?_
    refine sm_iconst (pc := 26) dX9_cores_26 zc_i_0 ?_
    refine sm_iastore (pc := 27) dX9_cores_27 ?_
    refine sm_iconst (pc := 28) dX9_cores_28 zc_i_1 ?_
    refine sm_istore_n (pc := 29) (n := 3) dX9_cores_29 rfl ?_
    exact sm_loop (fun r30 hr30 => slX9_cores_30 P r30 r7 hr30 hr7) _
noncomputable def b_X9_cores {d : Nat} (P : zP d) : zK d := (xald 0 (xpI 0 (xpfI 25 18 (xpI 0 (xist 1 (xloop (fun r7 => (lX9_cores_7 P r7)) 100000))))))
set_option maxRecDepth 100000 in
set_option maxHeartbeats 4000000 in
theorem s_X9_cores {d : Nat} [zGh] (P : zP d) : zSim X_X9_cores 3 P 0 (b_X9_cores P) := by
  unfold b_X9_cores
  refine sm_aload_n (pc := 0) (n := 0) dX9_cores_0 rfl ?_
  refine sm_iconst (pc := 1) dX9_cores_1 zc_i_0 ?_
  refine pf_X9_199 (pc := 2) rfl dX9_cores_2 ?_
  refine sm_iconst (pc := 5) dX9_cores_5 zc_i_0 ?_
  refine sm_istore_n (pc := 6) (n := 1) dX9_cores_6 rfl ?_
  exact sm_loop (fun r7 hr7 => slX9_cores_7 P r7 hr7) _
noncomputable def f_X9_cores {d : Nat} : List zV → zH d → zP d → Bool := zfn 5 b_X9_cores
theorem m_X9_cores {d : Nat} : zMet (d := d) X_X9_cores yX9_cores 3 f_X9_cores := zmet_mk (X := X_X9_cores) (by decide) rfl rfl s_X9_cores

abbrev X_X9_rowOf : zM := (RX9, cX9_rowOf, 4, (some .int), "rowOf")
noncomputable def lX9_rowOf_4 {d : Nat} (P : zP d) (r4 : zK d) : zK d := (xild 2 (xald 0 (xald 0 (xgfI 25 25 (xild 3 (xcV 25 3 0 0 f_X9_partOf (xcmp tge (xild 2 (xald 0 (xald 0 (xgfI 25 25 (xild 3 (xcV 25 3 0 0 f_X9_partOf (xbin zsub (xist 2 (xinc 3 1 r4))))))))) (xild 3 (xiret P)))))))))
set_option maxRecDepth 100000 in
set_option maxHeartbeats 4000000 in
theorem slX9_rowOf_4 {d : Nat} [zGh] (P : zP d) (r4 : zK d) (hr4 : zSim X_X9_rowOf 2 P 4 r4) : zSim X_X9_rowOf 2 P 4 (lX9_rowOf_4 P r4) := by
  unfold lX9_rowOf_4
  refine sm_iload_n (pc := 4) (n := 2) dX9_rowOf_4 rfl ?_
  refine sm_aload_n (pc := 5) (n := 0) dX9_rowOf_5 rfl ?_
  refine sm_aload_n (pc := 6) (n := 0) dX9_rowOf_6 rfl ?_
  refine gf_X9_205 (pc := 7) rfl dX9_rowOf_7 ?_
  refine sm_iload_n (pc := 10) (n := 3) dX9_rowOf_10 rfl ?_
  refine sm_cV (pc := 11) (ci := 9) (n := 3) (mc := 0) (ms := 0) rfl m_X9_partOf (cr_X9_175 (X := X_X9_rowOf) (fr := 2) (frc := 1) (pc := 11) (mc := 0) (ms := 0) rfl (by decide) dX9_rowOf_11) ?_
  refine sm_icmp_lt (pc := 14) (tgt := 35) dX9_rowOf_14 (by decide) ?_ ?_
  · skip
    refine sm_iload_n (pc := 35) (n := 3) dX9_rowOf_35 rfl ?_
    exact sm_ireturn (pc := 36) dX9_rowOf_36 rfl
  · skip
    refine sm_iload_n (pc := 17) (n := 2) dX9_rowOf_17 rfl ?_
    refine sm_aload_n (pc := 18) (n := 0) dX9_rowOf_18 rfl ?_
    refine sm_aload_n (pc := 19) (n := 0) dX9_rowOf_19 rfl ?_
    refine gf_X9_205 (pc := 20) rfl dX9_rowOf_20 ?_
    refine sm_iload_n (pc := 23) (n := 3) dX9_rowOf_23 rfl ?_
    refine sm_cV (pc := 24) (ci := 9) (n := 3) (mc := 0) (ms := 0) rfl m_X9_partOf (cr_X9_175 (X := X_X9_rowOf) (fr := 2) (frc := 1) (pc := 24) (mc := 0) (ms := 0) rfl (by decide) dX9_rowOf_24) ?_
    refine sm_isub (pc := 27) dX9_rowOf_27 ?_
    refine sm_istore_n (pc := 28) (n := 2) dX9_rowOf_28 rfl ?_
    refine sm_iinc (pc := 29) (n := 3) dX9_rowOf_29 zc_i_1 ?_
    refine sm_goto (pc := 32) (tgt := 4) dX9_rowOf_32 (by decide) ?_
    exact hr4
noncomputable def b_X9_rowOf {d : Nat} (P : zP d) : zK d := (xild 1 (xist 2 (xpI 0 (xist 3 (xloop (fun r4 => (lX9_rowOf_4 P r4)) 100000)))))
set_option maxRecDepth 100000 in
set_option maxHeartbeats 4000000 in
theorem s_X9_rowOf {d : Nat} [zGh] (P : zP d) : zSim X_X9_rowOf 2 P 0 (b_X9_rowOf P) := by
  unfold b_X9_rowOf
  refine sm_iload_n (pc := 0) (n := 1) dX9_rowOf_0 rfl ?_
  refine sm_istore_n (pc := 1) (n := 2) dX9_rowOf_1 rfl ?_
  refine sm_iconst (pc := 2) dX9_rowOf_2 zc_i_0 ?_
  refine sm_istore_n (pc := 3) (n := 3) dX9_rowOf_3 rfl ?_
  exact sm_loop (fun r4 hr4 => slX9_rowOf_4 P r4 hr4) _
noncomputable def f_X9_rowOf {d : Nat} : List zV → zH d → zP d → Bool := zfn 4 b_X9_rowOf
theorem m_X9_rowOf {d : Nat} : zMet (d := d) X_X9_rowOf yX9_rowOf 2 f_X9_rowOf := zmet_mk (X := X_X9_rowOf) (by decide) rfl rfl s_X9_rowOf

abbrev X_X9_cellAt : zM := (RX9, cX9_cellAt, 5, (some .int), "cellAt")
noncomputable def lX9_cellAt_5 {d : Nat} (P : zP d) (r5 : zK d) : zK d := (xild 4 (xild 1 (xcmp tge (xild 3 (xiret P)) (xild 3 (xald 0 (xald 0 (xgfI 25 25 (xild 4 (xcV 25 3 0 0 f_X9_partOf (xbin zadd (xist 3 (xinc 4 1 r5))))))))))))
set_option maxRecDepth 100000 in
set_option maxHeartbeats 4000000 in
theorem slX9_cellAt_5 {d : Nat} [zGh] (P : zP d) (r5 : zK d) (hr5 : zSim X_X9_cellAt 2 P 5 r5) : zSim X_X9_cellAt 2 P 5 (lX9_cellAt_5 P r5) := by
  unfold lX9_cellAt_5
  refine sm_iload (pc := 5) (n := 4) dX9_cellAt_5 ?_
  refine sm_iload_n (pc := 7) (n := 1) dX9_cellAt_7 rfl ?_
  refine sm_icmp_ge (pc := 8) (tgt := 30) dX9_cellAt_8 (by decide) ?_ ?_
  · skip
    refine sm_iload_n (pc := 30) (n := 3) dX9_cellAt_30 rfl ?_
    exact sm_ireturn (pc := 31) dX9_cellAt_31 rfl
  · skip
    refine sm_iload_n (pc := 11) (n := 3) dX9_cellAt_11 rfl ?_
    refine sm_aload_n (pc := 12) (n := 0) dX9_cellAt_12 rfl ?_
    refine sm_aload_n (pc := 13) (n := 0) dX9_cellAt_13 rfl ?_
    refine gf_X9_205 (pc := 14) rfl dX9_cellAt_14 ?_
    refine sm_iload (pc := 17) (n := 4) dX9_cellAt_17 ?_
    refine sm_cV (pc := 19) (ci := 9) (n := 3) (mc := 0) (ms := 0) rfl m_X9_partOf (cr_X9_175 (X := X_X9_cellAt) (fr := 2) (frc := 1) (pc := 19) (mc := 0) (ms := 0) rfl (by decide) dX9_cellAt_19) ?_
    refine sm_iadd (pc := 22) dX9_cellAt_22 ?_
    refine sm_istore_n (pc := 23) (n := 3) dX9_cellAt_23 rfl ?_
    refine sm_iinc (pc := 24) (n := 4) dX9_cellAt_24 zc_i_1 ?_
    refine sm_goto (pc := 27) (tgt := 5) dX9_cellAt_27 (by decide) ?_
    exact hr5
noncomputable def b_X9_cellAt {d : Nat} (P : zP d) : zK d := (xild 2 (xist 3 (xpI 0 (xist 4 (xloop (fun r5 => (lX9_cellAt_5 P r5)) 100000)))))
set_option maxRecDepth 100000 in
set_option maxHeartbeats 4000000 in
theorem s_X9_cellAt {d : Nat} [zGh] (P : zP d) : zSim X_X9_cellAt 2 P 0 (b_X9_cellAt P) := by
  unfold b_X9_cellAt
  refine sm_iload_n (pc := 0) (n := 2) dX9_cellAt_0 rfl ?_
  refine sm_istore_n (pc := 1) (n := 3) dX9_cellAt_1 rfl ?_
  refine sm_iconst (pc := 2) dX9_cellAt_2 zc_i_0 ?_
  refine sm_istore (pc := 3) (n := 4) dX9_cellAt_3 ?_
  exact sm_loop (fun r5 hr5 => slX9_cellAt_5 P r5 hr5) _
noncomputable def f_X9_cellAt {d : Nat} : List zV → zH d → zP d → Bool := zfn 5 b_X9_cellAt
theorem m_X9_cellAt {d : Nat} : zMet (d := d) X_X9_cellAt yX9_cellAt 2 f_X9_cellAt := zmet_mk (X := X_X9_cellAt) (by decide) rfl rfl s_X9_cellAt

abbrev X_X9_fills : zM := (RX9, cX9_fills, 6, none, "fills")
noncomputable def bX9_fills_161 {d : Nat} (self : List zV → zH d → zP d → Bool) (P : zP d) (r74 : zK d) : zK d := (xinc 5 1 r74)
set_option maxRecDepth 100000 in
set_option maxHeartbeats 4000000 in
theorem sbX9_fills_161 {d : Nat} [zGh] (n : Nat) (self : List zV → zH d → zP d → Bool) (hself : zMet X_X9_fills yX9_fills (2 + n) self) (P : zP d) (r74 : zK d) (hr74 : zSim X_X9_fills (2 + (n + 1)) P 74 r74) : zSim X_X9_fills (2 + (n + 1)) P 161 (bX9_fills_161 self P r74) := by
  unfold bX9_fills_161
  refine sm_iinc (pc := 161) (n := 5) dX9_fills_161 zc_i_1 ?_
  refine sm_goto (pc := 164) (tgt := 74) dX9_fills_164 (by decide) ?_
  exact hr74
noncomputable def bX9_fills_140 {d : Nat} (self : List zV → zH d → zP d → Bool) (P : zP d) (j161 : zK d) : zK d := (xald 0 (xgfR 25 24 (xild 1 (xild 5 (xast1 0 (fun v => v) (xald 0 (xild 1 (xpI 1 (xbin zadd (xild 2 (xpI 1 (xild 5 (xbin zshl (xbin zor (xcV 25 3 0 0 self j161)))))))))))))))
set_option maxRecDepth 100000 in
set_option maxHeartbeats 4000000 in
theorem sbX9_fills_140 {d : Nat} [zGh] (n : Nat) (self : List zV → zH d → zP d → Bool) (hself : zMet X_X9_fills yX9_fills (2 + n) self) (P : zP d) (j161 : zK d) (hj161 : zSim X_X9_fills (2 + (n + 1)) P 161 j161) : zSim X_X9_fills (2 + (n + 1)) P 140 (bX9_fills_140 self P j161) := by
  unfold bX9_fills_140
  refine sm_aload_n (pc := 140) (n := 0) dX9_fills_140 rfl ?_
  refine gf_X9_62 (pc := 141) rfl dX9_fills_141 ?_
  refine sm_iload_n (pc := 144) (n := 1) dX9_fills_144 rfl ?_
  refine sm_iload (pc := 145) (n := 5) dX9_fills_145 ?_
  refine sm_iastore (pc := 147) dX9_fills_147 ?_
  refine sm_aload_n (pc := 148) (n := 0) dX9_fills_148 rfl ?_
  refine sm_iload_n (pc := 149) (n := 1) dX9_fills_149 rfl ?_
  refine sm_iconst (pc := 150) dX9_fills_150 zc_i_1 ?_
  refine sm_iadd (pc := 151) dX9_fills_151 ?_
  refine sm_iload_n (pc := 152) (n := 2) dX9_fills_152 rfl ?_
  refine sm_iconst (pc := 153) dX9_fills_153 zc_i_1 ?_
  refine sm_iload (pc := 154) (n := 5) dX9_fills_154 ?_
  refine sm_ishl (pc := 156) dX9_fills_156 ?_
  refine sm_ior (pc := 157) dX9_fills_157 ?_
  refine sm_cV (pc := 158) (ci := 9) (n := 3) (mc := 0) (ms := 0) rfl hself (cr_X9_217 (X := X_X9_fills) (fr := 2 + (n + 1)) (frc := 2 + n) (pc := 158) (mc := 0) (ms := 0) rfl (by omega) dX9_fills_158) ?_
  exact hj161
noncomputable def bX9_fills_114 {d : Nat} (self : List zV → zH d → zP d → Bool) (P : zP d) (j161 : zK d) : zK d := (xild 3 (xjoin (bX9_fills_140 self P j161) (fun j140 => (xif0 t0le j140 (xald 0 (xgfR 25 24 (xald 0 (xild 3 (xpI 1 (xbin zsub (xild 4 (xcV 25 3 0 0 f_X9_cellAt (xald1 0 (xild 5 (xcmp tle j140 j161)))))))))))))))
set_option maxRecDepth 100000 in
set_option maxHeartbeats 4000000 in
theorem sbX9_fills_114 {d : Nat} [zGh] (n : Nat) (self : List zV → zH d → zP d → Bool) (hself : zMet X_X9_fills yX9_fills (2 + n) self) (P : zP d) (j161 : zK d) (hj161 : zSim X_X9_fills (2 + (n + 1)) P 161 j161) : zSim X_X9_fills (2 + (n + 1)) P 114 (bX9_fills_114 self P j161) := by
  unfold bX9_fills_114
  refine sm_iload_n (pc := 114) (n := 3) dX9_fills_114 rfl ?_
  refine sm_join (pc := 115) (pc' := 140) (sbX9_fills_140 n self hself P j161 hj161) (fun j140 hj140 => ?_)
  refine sm_if_le (pc := 115) (tgt := 140) dX9_fills_115 (by decide) ?_ ?_
  · skip
    exact hj140
  · skip
    refine sm_aload_n (pc := 118) (n := 0) dX9_fills_118 rfl ?_
    refine gf_X9_62 (pc := 119) rfl dX9_fills_119 ?_
    refine sm_aload_n (pc := 122) (n := 0) dX9_fills_122 rfl ?_
    refine sm_iload_n (pc := 123) (n := 3) dX9_fills_123 rfl ?_
    refine sm_iconst (pc := 124) dX9_fills_124 zc_i_1 ?_
    refine sm_isub (pc := 125) dX9_fills_125 ?_
    refine sm_iload (pc := 126) (n := 4) dX9_fills_126 ?_
    refine sm_cV (pc := 128) (ci := 9) (n := 3) (mc := 0) (ms := 0) rfl m_X9_cellAt (cr_X9_214 (X := X_X9_fills) (fr := 2 + (n + 1)) (frc := 2) (pc := 128) (mc := 0) (ms := 0) rfl (by omega) dX9_fills_128) ?_
    refine sm_iaload (pc := 131) dX9_fills_131 ?_
    refine sm_iload (pc := 132) (n := 5) dX9_fills_132 ?_
    refine sm_icmp_le (pc := 134) (tgt := 140) dX9_fills_134 (by decide) ?_ ?_
    · skip
      exact hj140
    · skip
      refine sm_goto (pc := 137) (tgt := 161) dX9_fills_137 (by decide) ?_
      exact hj161
noncomputable def lX9_fills_74 {d : Nat} (self : List zV → zH d → zP d → Bool) (P : zP d) (r74 : zK d) : zK d := (xild 5 (xald 0 (xgfI 25 0 (xcmp tle (xild 2 (xild 5 (xbin zshr (xpI 1 (xbin zand (xpI 1 (xjoin (bX9_fills_161 self P r74) (fun j161 => (xcmp Nat.beq j161 (xild 4 (xjoin (bX9_fills_114 self P j161) (fun j114 => (xif0 t0le j114 (xald 0 (xgfR 25 24 (xild 1 (xpI 1 (xbin zsub (xald1 0 (xild 5 (xcmp tle j114 j161))))))))))))))))))))) (xvret P)))))
set_option maxRecDepth 100000 in
set_option maxHeartbeats 4000000 in
theorem slX9_fills_74 {d : Nat} [zGh] (n : Nat) (self : List zV → zH d → zP d → Bool) (hself : zMet X_X9_fills yX9_fills (2 + n) self) (P : zP d) (r74 : zK d) (hr74 : zSim X_X9_fills (2 + (n + 1)) P 74 r74) : zSim X_X9_fills (2 + (n + 1)) P 74 (lX9_fills_74 self P r74) := by
  unfold lX9_fills_74
  refine sm_iload (pc := 74) (n := 5) dX9_fills_74 ?_
  refine sm_aload_n (pc := 76) (n := 0) dX9_fills_76 rfl ?_
  refine gf_X9_169 (pc := 77) rfl dX9_fills_77 ?_
  refine sm_icmp_gt (pc := 80) (tgt := 167) dX9_fills_80 (by decide) ?_ ?_
  · skip
    exact sm_vreturn (pc := 167) dX9_fills_167 rfl
  · skip
    refine sm_iload_n (pc := 83) (n := 2) dX9_fills_83 rfl ?_
    refine sm_iload (pc := 84) (n := 5) dX9_fills_84 ?_
    refine sm_ishr (pc := 86) dX9_fills_86 ?_
    refine sm_iconst (pc := 87) dX9_fills_87 zc_i_1 ?_
    refine sm_iand (pc := 88) dX9_fills_88 ?_
    refine sm_iconst (pc := 89) dX9_fills_89 zc_i_1 ?_
    refine sm_join (pc := 90) (pc' := 161) (sbX9_fills_161 n self hself P r74 hr74) (fun j161 hj161 => ?_)
    refine sm_icmp_ne (pc := 90) (tgt := 96) dX9_fills_90 (by decide) ?_ ?_
    · skip
      refine sm_iload (pc := 96) (n := 4) dX9_fills_96 ?_
      refine sm_join (pc := 98) (pc' := 114) (sbX9_fills_114 n self hself P j161 hj161) (fun j114 hj114 => ?_)
      refine sm_if_le (pc := 98) (tgt := 114) dX9_fills_98 (by decide) ?_ ?_
      · skip
        exact hj114
      · skip
        refine sm_aload_n (pc := 101) (n := 0) dX9_fills_101 rfl ?_
        refine gf_X9_62 (pc := 102) rfl dX9_fills_102 ?_
        refine sm_iload_n (pc := 105) (n := 1) dX9_fills_105 rfl ?_
        refine sm_iconst (pc := 106) dX9_fills_106 zc_i_1 ?_
        refine sm_isub (pc := 107) dX9_fills_107 ?_
        refine sm_iaload (pc := 108) dX9_fills_108 ?_
        refine sm_iload (pc := 109) (n := 5) dX9_fills_109 ?_
        refine sm_icmp_gt (pc := 111) (tgt := 161) dX9_fills_111 (by decide) ?_ ?_
        · skip
          exact hj161
        · skip
          exact hj114
    · skip
      refine sm_goto (pc := 93) (tgt := 161) dX9_fills_93 (by decide) ?_
      exact hj161
noncomputable def lX9_fills_10 {d : Nat} (self : List zV → zH d → zP d → Bool) (P : zP d) (r10 : zK d) : zK d := (xild 3 (xald 0 (xgfI 25 0 (xcmp tge (xald 0 (xdup (xgfI 25 23 (xpI 1 (xbin zadd (xpfI 25 23 (xvret P))))))) (xald 0 (xgfR 25 22 (xpI 6 (xald 0 (xgfI 25 23 (xbin zmul (xild 3 (xbin zadd (xald 0 (xgfR 25 24 (xild 3 (xald1 0 (xast1 0 (fun v => v) (xinc 3 1 r10))))))))))))))))))
set_option maxRecDepth 100000 in
set_option maxHeartbeats 4000000 in
theorem slX9_fills_10 {d : Nat} [zGh] (n : Nat) (self : List zV → zH d → zP d → Bool) (hself : zMet X_X9_fills yX9_fills (2 + n) self) (P : zP d) (r10 : zK d) (hr10 : zSim X_X9_fills (2 + (n + 1)) P 10 r10) : zSim X_X9_fills (2 + (n + 1)) P 10 (lX9_fills_10 self P r10) := by
  unfold lX9_fills_10
  refine sm_iload_n (pc := 10) (n := 3) dX9_fills_10 rfl ?_
  refine sm_aload_n (pc := 11) (n := 0) dX9_fills_11 rfl ?_
  refine gf_X9_169 (pc := 12) rfl dX9_fills_12 ?_
  refine sm_icmp_ge (pc := 15) (tgt := 44) dX9_fills_15 (by decide) ?_ ?_
  · skip
    refine sm_aload_n (pc := 44) (n := 0) dX9_fills_44 rfl ?_
    refine sm_dup (pc := 45) dX9_fills_45 ?_
    refine gf_X9_208 (pc := 46) rfl dX9_fills_46 ?_
    refine sm_iconst (pc := 49) dX9_fills_49 zc_i_1 ?_
    refine sm_iadd (pc := 50) dX9_fills_50 ?_
    refine pf_X9_208 (pc := 51) rfl dX9_fills_51 ?_
    exact sm_vreturn (pc := 54) dX9_fills_54 rfl
  · skip
    refine sm_aload_n (pc := 18) (n := 0) dX9_fills_18 rfl ?_
    refine gf_X9_59 (pc := 19) rfl dX9_fills_19 ?_
    refine sm_bipush (pc := 22) dX9_fills_22 zc_b_6 ?_
    refine sm_aload_n (pc := 24) (n := 0) dX9_fills_24 rfl ?_
    refine gf_X9_208 (pc := 25) rfl dX9_fills_25 ?_
    refine sm_imul (pc := 28) dX9_fills_28 ?_
    refine sm_iload_n (pc := 29) (n := 3) dX9_fills_29 rfl ?_
    refine sm_iadd (pc := 30) dX9_fills_30 ?_
    refine sm_aload_n (pc := 31) (n := 0) dX9_fills_31 rfl ?_
    refine gf_X9_62 (pc := 32) rfl dX9_fills_32 ?_
    refine sm_iload_n (pc := 35) (n := 3) dX9_fills_35 rfl ?_
    refine sm_iaload (pc := 36) dX9_fills_36 ?_
    refine sm_iastore (pc := 37) dX9_fills_37 ?_
    refine sm_iinc (pc := 38) (n := 3) dX9_fills_38 zc_i_1 ?_
    refine sm_goto (pc := 41) (tgt := 10) dX9_fills_41 (by decide) ?_
    exact hr10
noncomputable def b_X9_fills {d : Nat} (self : List zV → zH d → zP d → Bool) (P : zP d) : zK d := (xild 1 (xald 0 (xgfI 25 0 (xcmp Nat.beq (xpI 0 (xist 3 (xloop (fun r10 => (lX9_fills_10 self P r10)) 100000))) (xald 0 (xild 1 (xcV 25 2 0 0 f_X9_rowOf (xist 3 (xild 1 (xald 0 (xild 3 (xpI 0 (xcV 25 3 0 0 f_X9_cellAt (xbin zsub (xist 4 (xpI 1 (xist 5 (xloop (fun r74 => (lX9_fills_74 self P r74)) 100000))))))))))))))))))
set_option maxRecDepth 100000 in
set_option maxHeartbeats 4000000 in
theorem s_X9_fills {d : Nat} [zGh] (n : Nat) (self : List zV → zH d → zP d → Bool) (hself : zMet X_X9_fills yX9_fills (2 + n) self) (P : zP d) : zSim X_X9_fills (2 + (n + 1)) P 0 (b_X9_fills self P) := by
  unfold b_X9_fills
  refine sm_iload_n (pc := 0) (n := 1) dX9_fills_0 rfl ?_
  refine sm_aload_n (pc := 1) (n := 0) dX9_fills_1 rfl ?_
  refine gf_X9_169 (pc := 2) rfl dX9_fills_2 ?_
  refine sm_icmp_ne (pc := 5) (tgt := 55) dX9_fills_5 (by decide) ?_ ?_
  · skip
    refine sm_aload_n (pc := 55) (n := 0) dX9_fills_55 rfl ?_
    refine sm_iload_n (pc := 56) (n := 1) dX9_fills_56 rfl ?_
    refine sm_cV (pc := 57) (ci := 9) (n := 2) (mc := 0) (ms := 0) rfl m_X9_rowOf (cr_X9_211 (X := X_X9_fills) (fr := 2 + (n + 1)) (frc := 2) (pc := 57) (mc := 0) (ms := 0) rfl (by omega) dX9_fills_57) ?_
    refine sm_istore_n (pc := 60) (n := 3) dX9_fills_60 rfl ?_
    refine sm_iload_n (pc := 61) (n := 1) dX9_fills_61 rfl ?_
    refine sm_aload_n (pc := 62) (n := 0) dX9_fills_62 rfl ?_
    refine sm_iload_n (pc := 63) (n := 3) dX9_fills_63 rfl ?_
    refine sm_iconst (pc := 64) dX9_fills_64 zc_i_0 ?_
    refine sm_cV (pc := 65) (ci := 9) (n := 3) (mc := 0) (ms := 0) rfl m_X9_cellAt (cr_X9_214 (X := X_X9_fills) (fr := 2 + (n + 1)) (frc := 2) (pc := 65) (mc := 0) (ms := 0) rfl (by omega) dX9_fills_65) ?_
    refine sm_isub (pc := 68) dX9_fills_68 ?_
    refine sm_istore (pc := 69) (n := 4) dX9_fills_69 ?_
    refine sm_iconst (pc := 71) dX9_fills_71 zc_i_1 ?_
    refine sm_istore (pc := 72) (n := 5) dX9_fills_72 ?_
    exact sm_loop (fun r74 hr74 => slX9_fills_74 n self hself P r74 hr74) _
  · skip
    refine sm_iconst (pc := 8) dX9_fills_8 zc_i_0 ?_
    refine sm_istore_n (pc := 9) (n := 3) dX9_fills_9 rfl ?_
    exact sm_loop (fun r10 hr10 => slX9_fills_10 n self hself P r10 hr10) _
noncomputable def f_X9_fills {d : Nat} : List zV → zH d → zP d → Bool := zrec 6 b_X9_fills 8
theorem m_X9_fills {d : Nat} : zMet (d := d) X_X9_fills yX9_fills 10 f_X9_fills := zmet_rec (X := X_X9_fills) (fr := 2) (by decide) rfl rfl (fun n f hf _ P => s_X9_fills n f hf P) 8

abbrev X_X9_placeNow : zM := (RX9, cX9_placeNow, 3, (some .int), "placeNow")
noncomputable def bX9_placeNow_68 {d : Nat} (P : zP d) : zK d := (xald 0 (xgfR 25 26 (xild 1 (xald1 0 (xpI 1 (xbin zsub (xiret P)))))))
set_option maxRecDepth 100000 in
set_option maxHeartbeats 4000000 in
theorem sbX9_placeNow_68 {d : Nat} [zGh] (P : zP d) : zSim X_X9_placeNow 1 P 68 (bX9_placeNow_68 P) := by
  unfold bX9_placeNow_68
  refine sm_aload_n (pc := 68) (n := 0) dX9_placeNow_68 rfl ?_
  refine gf_X9_66 (pc := 69) rfl dX9_placeNow_69 ?_
  refine sm_iload_n (pc := 72) (n := 1) dX9_placeNow_72 rfl ?_
  refine sm_iaload (pc := 73) dX9_placeNow_73 ?_
  refine sm_iconst (pc := 74) dX9_placeNow_74 zc_i_1 ?_
  refine sm_isub (pc := 75) dX9_placeNow_75 ?_
  exact sm_ireturn (pc := 76) dX9_placeNow_76 rfl
noncomputable def cX9_placeNow_67 {d : Nat} (P : zP d) (j68 : zK d) : zK d := (xast1 0 (fun v => v) j68)
set_option maxRecDepth 100000 in
set_option maxHeartbeats 4000000 in
theorem scX9_placeNow_67 {d : Nat} [zGh] (P : zP d) (j68 : zK d) (hj68 : zSim X_X9_placeNow 1 P 68 j68) : zSim X_X9_placeNow 1 P 67 (cX9_placeNow_67 P j68) := by
  unfold cX9_placeNow_67
  refine sm_iastore (pc := 67) dX9_placeNow_67 ?_
  exact hj68
noncomputable def lX9_placeNow_7 {d : Nat} (P : zP d) (r7 : zK d) : zK d := (xild 2 (xif0 t0le (xald 0 (xgfR 25 26 (xild 1 (xald1 0 (xjoin (bX9_placeNow_68 P) (fun j68 => (xif0 t0eq (xald 0 (xgfR 25 27 (xald 0 (xgfI 25 28 (xild 1 (xast1 0 (fun v => v) (xald 0 (xdup (xgfI 25 28 (xpI 1 (xbin zadd (xpfI 25 28 (xald 0 (xgfR 25 26 (xild 1 (xald 0 (xgfI 25 28 (cX9_placeNow_67 P j68)))))))))))))))))) j68))))))) (xpI 6 (xild 1 (xbin zmul (xald 0 (xgfR 25 32 (xild 2 (xald1 0 (xbin zadd (xist 1 (xinc 2 4294967295 r7))))))))))))
set_option maxRecDepth 100000 in
set_option maxHeartbeats 4000000 in
theorem slX9_placeNow_7 {d : Nat} [zGh] (P : zP d) (r7 : zK d) (hr7 : zSim X_X9_placeNow 1 P 7 r7) : zSim X_X9_placeNow 1 P 7 (lX9_placeNow_7 P r7) := by
  unfold lX9_placeNow_7
  refine sm_iload_n (pc := 7) (n := 2) dX9_placeNow_7 rfl ?_
  refine sm_if_le (pc := 8) (tgt := 29) dX9_placeNow_8 (by decide) ?_ ?_
  · skip
    refine sm_aload_n (pc := 29) (n := 0) dX9_placeNow_29 rfl ?_
    refine gf_X9_66 (pc := 30) rfl dX9_placeNow_30 ?_
    refine sm_iload_n (pc := 33) (n := 1) dX9_placeNow_33 rfl ?_
    refine sm_iaload (pc := 34) dX9_placeNow_34 ?_
    refine sm_join (pc := 35) (pc' := 68) (sbX9_placeNow_68 P) (fun j68 hj68 => ?_)
    refine sm_if_ne (pc := 35) (tgt := 68) dX9_placeNow_35 (by decide) ?_ ?_
    · skip
      exact hj68
    · skip
      refine sm_aload_n (pc := 38) (n := 0) dX9_placeNow_38 rfl ?_
      refine gf_X9_69 (pc := 39) rfl dX9_placeNow_39 ?_
      refine sm_aload_n (pc := 42) (n := 0) dX9_placeNow_42 rfl ?_
      refine gf_X9_220 (pc := 43) rfl dX9_placeNow_43 ?_
      refine sm_iload_n (pc := 46) (n := 1) dX9_placeNow_46 rfl ?_
      refine sm_iastore (pc := 47) dX9_placeNow_47 ?_
      refine sm_aload_n (pc := 48) (n := 0) dX9_placeNow_48 rfl ?_
      refine sm_dup (pc := 49) dX9_placeNow_49 ?_
      refine gf_X9_220 (pc := 50) rfl dX9_placeNow_50 ?_
      refine sm_iconst (pc := 53) dX9_placeNow_53 zc_i_1 ?_
      refine sm_iadd (pc := 54) dX9_placeNow_54 ?_
      refine pf_X9_220 (pc := 55) rfl dX9_placeNow_55 ?_
      refine sm_aload_n (pc := 58) (n := 0) dX9_placeNow_58 rfl ?_
      refine gf_X9_66 (pc := 59) rfl dX9_placeNow_59 ?_
      refine sm_iload_n (pc := 62) (n := 1) dX9_placeNow_62 rfl ?_
      refine sm_aload_n (pc := 63) (n := 0) dX9_placeNow_63 rfl ?_
      refine gf_X9_220 (pc := 64) rfl dX9_placeNow_64 ?_
      exact scX9_placeNow_67 P j68 hj68
  · skip
    refine sm_bipush (pc := 11) dX9_placeNow_11 zc_b_6 ?_
    refine sm_iload_n (pc := 13) (n := 1) dX9_placeNow_13 rfl ?_
    refine sm_imul (pc := 14) dX9_placeNow_14 ?_
    refine sm_aload_n (pc := 15) (n := 0) dX9_placeNow_15 rfl ?_
    refine gf_X9_81 (pc := 16) rfl dX9_placeNow_16 ?_
    refine sm_iload_n (pc := 19) (n := 2) dX9_placeNow_19 rfl ?_
    refine sm_iaload (pc := 20) dX9_placeNow_20 ?_
    refine sm_iadd (pc := 21) dX9_placeNow_21 ?_
    refine sm_istore_n (pc := 22) (n := 1) dX9_placeNow_22 rfl ?_
    refine sm_iinc (pc := 23) (n := 2) dX9_placeNow_23 zc_i_m1 ?_
    refine sm_goto (pc := 26) (tgt := 7) dX9_placeNow_26 (by decide) ?_
    exact hr7
noncomputable def b_X9_placeNow {d : Nat} (P : zP d) : zK d := (xpI 0 (xist 1 (xald 0 (xgfI 25 0 (xist 2 (xloop (fun r7 => (lX9_placeNow_7 P r7)) 100000))))))
set_option maxRecDepth 100000 in
set_option maxHeartbeats 4000000 in
theorem s_X9_placeNow {d : Nat} [zGh] (P : zP d) : zSim X_X9_placeNow 1 P 0 (b_X9_placeNow P) := by
  unfold b_X9_placeNow
  refine sm_iconst (pc := 0) dX9_placeNow_0 zc_i_0 ?_
  refine sm_istore_n (pc := 1) (n := 1) dX9_placeNow_1 rfl ?_
  refine sm_aload_n (pc := 2) (n := 0) dX9_placeNow_2 rfl ?_
  refine gf_X9_169 (pc := 3) rfl dX9_placeNow_3 ?_
  refine sm_istore_n (pc := 6) (n := 2) dX9_placeNow_6 rfl ?_
  exact sm_loop (fun r7 hr7 => slX9_placeNow_7 P r7 hr7) _
noncomputable def f_X9_placeNow {d : Nat} : List zV → zH d → zP d → Bool := zfn 3 b_X9_placeNow
theorem m_X9_placeNow {d : Nat} : zMet (d := d) X_X9_placeNow yX9_placeNow 1 f_X9_placeNow := zmet_mk (X := X_X9_placeNow) (by decide) rfl rfl s_X9_placeNow

abbrev X_X9_swaps : zM := (RX9, cX9_swaps, 4, none, "swaps")
noncomputable def b_X9_swaps {d : Nat} (P : zP d) : zK d := (xald 0 (xgfR 25 31 (xild 1 (xald1 0 (xist 3 (xald 0 (xgfR 25 31 (xild 1 (xald 0 (xgfR 25 31 (xild 2 (xald1 0 (xast1 0 (fun v => v) (xald 0 (xgfR 25 31 (xild 2 (xild 3 (xast1 0 (fun v => v) (xvret P)))))))))))))))))))
set_option maxRecDepth 100000 in
set_option maxHeartbeats 4000000 in
theorem s_X9_swaps {d : Nat} [zGh] (P : zP d) : zSim X_X9_swaps 1 P 0 (b_X9_swaps P) := by
  unfold b_X9_swaps
  refine sm_aload_n (pc := 0) (n := 0) dX9_swaps_0 rfl ?_
  refine gf_X9_78 (pc := 1) rfl dX9_swaps_1 ?_
  refine sm_iload_n (pc := 4) (n := 1) dX9_swaps_4 rfl ?_
  refine sm_iaload (pc := 5) dX9_swaps_5 ?_
  refine sm_istore_n (pc := 6) (n := 3) dX9_swaps_6 rfl ?_
  refine sm_aload_n (pc := 7) (n := 0) dX9_swaps_7 rfl ?_
  refine gf_X9_78 (pc := 8) rfl dX9_swaps_8 ?_
  refine sm_iload_n (pc := 11) (n := 1) dX9_swaps_11 rfl ?_
  refine sm_aload_n (pc := 12) (n := 0) dX9_swaps_12 rfl ?_
  refine gf_X9_78 (pc := 13) rfl dX9_swaps_13 ?_
  refine sm_iload_n (pc := 16) (n := 2) dX9_swaps_16 rfl ?_
  refine sm_iaload (pc := 17) dX9_swaps_17 ?_
  refine sm_iastore (pc := 18) dX9_swaps_18 ?_
  refine sm_aload_n (pc := 19) (n := 0) dX9_swaps_19 rfl ?_
  refine gf_X9_78 (pc := 20) rfl dX9_swaps_20 ?_
  refine sm_iload_n (pc := 23) (n := 2) dX9_swaps_23 rfl ?_
  refine sm_iload_n (pc := 24) (n := 3) dX9_swaps_24 rfl ?_
  refine sm_iastore (pc := 25) dX9_swaps_25 ?_
  exact sm_vreturn (pc := 26) dX9_swaps_26 rfl
noncomputable def f_X9_swaps {d : Nat} : List zV → zH d → zP d → Bool := zfn 4 b_X9_swaps
theorem m_X9_swaps {d : Nat} : zMet (d := d) X_X9_swaps yX9_swaps 1 f_X9_swaps := zmet_mk (X := X_X9_swaps) (by decide) rfl rfl s_X9_swaps

abbrev X_X9_spreads : zM := (RX9, cX9_spreads, 8, none, "spreads")
noncomputable def bX9_spreads_148 {d : Nat} (self : List zV → zH d → zP d → Bool) (P : zP d) (r81 : zK d) : zK d := (xcV 25 6 0 0 self (xald 0 (xald 0 (xild 4 (xild 3 (xcV 25 3 0 0 f_X9_cellAt (xald 0 (xild 7 (xild 3 (xcV 25 3 0 0 f_X9_cellAt (xcV 25 3 0 0 f_X9_swaps (xinc 7 1 r81))))))))))))
set_option maxRecDepth 100000 in
set_option maxHeartbeats 4000000 in
theorem sbX9_spreads_148 {d : Nat} [zGh] (n : Nat) (self : List zV → zH d → zP d → Bool) (hself : zMet X_X9_spreads yX9_spreads (2 + n) self) (P : zP d) (r81 : zK d) (hr81 : zSim X_X9_spreads (2 + (n + 1)) P 81 r81) : zSim X_X9_spreads (2 + (n + 1)) P 148 (bX9_spreads_148 self P r81) := by
  unfold bX9_spreads_148
  refine sm_cV (pc := 148) (ci := 9) (n := 6) (mc := 0) (ms := 0) rfl hself (cr_X9_227 (X := X_X9_spreads) (fr := 2 + (n + 1)) (frc := 2 + n) (pc := 148) (mc := 0) (ms := 0) rfl (by omega) dX9_spreads_148) ?_
  refine sm_aload_n (pc := 151) (n := 0) dX9_spreads_151 rfl ?_
  refine sm_aload_n (pc := 152) (n := 0) dX9_spreads_152 rfl ?_
  refine sm_iload (pc := 153) (n := 4) dX9_spreads_153 ?_
  refine sm_iload_n (pc := 155) (n := 3) dX9_spreads_155 rfl ?_
  refine sm_cV (pc := 156) (ci := 9) (n := 3) (mc := 0) (ms := 0) rfl m_X9_cellAt (cr_X9_214 (X := X_X9_spreads) (fr := 2 + (n + 1)) (frc := 2) (pc := 156) (mc := 0) (ms := 0) rfl (by omega) dX9_spreads_156) ?_
  refine sm_aload_n (pc := 159) (n := 0) dX9_spreads_159 rfl ?_
  refine sm_iload (pc := 160) (n := 7) dX9_spreads_160 ?_
  refine sm_iload_n (pc := 162) (n := 3) dX9_spreads_162 rfl ?_
  refine sm_cV (pc := 163) (ci := 9) (n := 3) (mc := 0) (ms := 0) rfl m_X9_cellAt (cr_X9_214 (X := X_X9_spreads) (fr := 2 + (n + 1)) (frc := 2) (pc := 163) (mc := 0) (ms := 0) rfl (by omega) dX9_spreads_163) ?_
  refine sm_cV (pc := 166) (ci := 9) (n := 3) (mc := 0) (ms := 0) rfl m_X9_swaps (cr_X9_231 (X := X_X9_spreads) (fr := 2 + (n + 1)) (frc := 1) (pc := 166) (mc := 0) (ms := 0) rfl (by omega) dX9_spreads_166) ?_
  refine sm_iinc (pc := 169) (n := 7) dX9_spreads_169 zc_i_1 ?_
  refine sm_goto (pc := 172) (tgt := 81) dX9_spreads_172 (by decide) ?_
  exact hr81
noncomputable def cX9_spreads_125 {d : Nat} (self : List zV → zH d → zP d → Bool) (P : zP d) (r81 : zK d) : zK d := (xald 0 (xald 1 (xild 2 (xild 3 (xild 4 (xpI 1 (xbin zadd (xild 7 (xild 4 (xjoin (bX9_spreads_148 self P r81) (fun j148 => (xcmp Nat.beq (xild 5 j148) (xild 5 (xun zneg j148))))))))))))))
set_option maxRecDepth 100000 in
set_option maxHeartbeats 4000000 in
theorem scX9_spreads_125 {d : Nat} [zGh] (n : Nat) (self : List zV → zH d → zP d → Bool) (hself : zMet X_X9_spreads yX9_spreads (2 + n) self) (P : zP d) (r81 : zK d) (hr81 : zSim X_X9_spreads (2 + (n + 1)) P 81 r81) : zSim X_X9_spreads (2 + (n + 1)) P 125 (cX9_spreads_125 self P r81) := by
  unfold cX9_spreads_125
  refine sm_aload_n (pc := 125) (n := 0) dX9_spreads_125 rfl ?_
  refine sm_aload_n (pc := 126) (n := 1) dX9_spreads_126 rfl ?_
  refine sm_iload_n (pc := 127) (n := 2) dX9_spreads_127 rfl ?_
  refine sm_iload_n (pc := 128) (n := 3) dX9_spreads_128 rfl ?_
  refine sm_iload (pc := 129) (n := 4) dX9_spreads_129 ?_
  refine sm_iconst (pc := 131) dX9_spreads_131 zc_i_1 ?_
  refine sm_iadd (pc := 132) dX9_spreads_132 ?_
  refine sm_iload (pc := 133) (n := 7) dX9_spreads_133 ?_
  refine sm_iload (pc := 135) (n := 4) dX9_spreads_135 ?_
  refine sm_join (pc := 137) (pc' := 148) (sbX9_spreads_148 n self hself P r81 hr81) (fun j148 hj148 => ?_)
  refine sm_icmp_ne (pc := 137) (tgt := 145) dX9_spreads_137 (by decide) ?_ ?_
  · skip
    refine sm_iload (pc := 145) (n := 5) dX9_spreads_145 ?_
    refine sm_ineg (pc := 147) dX9_spreads_147 ?_
    exact hj148
  · skip
    refine sm_iload (pc := 140) (n := 5) dX9_spreads_140 ?_
    refine sm_goto (pc := 142) (tgt := 148) dX9_spreads_142 (by decide) ?_
    exact hj148
noncomputable def lX9_spreads_81 {d : Nat} (self : List zV → zH d → zP d → Bool) (P : zP d) (r81 : zK d) : zK d := (xild 7 (xild 6 (xcmp tge (xvret P) (xald 0 (xald 0 (xild 4 (xild 3 (xcV 25 3 0 0 f_X9_cellAt (xald 0 (xild 7 (xild 3 (xcV 25 3 0 0 f_X9_cellAt (xcV 25 3 0 0 f_X9_swaps (xald 0 (xgfR 25 32 (xald 0 (xgfR 25 31 (xald 0 (xild 4 (xild 3 (xcV 25 3 0 0 f_X9_cellAt (xald1 0 (xild 4 (xast1 0 (fun v => v) (cX9_spreads_125 self P r81)))))))))))))))))))))))))
set_option maxRecDepth 100000 in
set_option maxHeartbeats 4000000 in
theorem slX9_spreads_81 {d : Nat} [zGh] (n : Nat) (self : List zV → zH d → zP d → Bool) (hself : zMet X_X9_spreads yX9_spreads (2 + n) self) (P : zP d) (r81 : zK d) (hr81 : zSim X_X9_spreads (2 + (n + 1)) P 81 r81) : zSim X_X9_spreads (2 + (n + 1)) P 81 (lX9_spreads_81 self P r81) := by
  unfold lX9_spreads_81
  refine sm_iload (pc := 81) (n := 7) dX9_spreads_81 ?_
  refine sm_iload (pc := 83) (n := 6) dX9_spreads_83 ?_
  refine sm_icmp_ge (pc := 85) (tgt := 175) dX9_spreads_85 (by decide) ?_ ?_
  · skip
    exact sm_vreturn (pc := 175) dX9_spreads_175 rfl
  · skip
    refine sm_aload_n (pc := 88) (n := 0) dX9_spreads_88 rfl ?_
    refine sm_aload_n (pc := 89) (n := 0) dX9_spreads_89 rfl ?_
    refine sm_iload (pc := 90) (n := 4) dX9_spreads_90 ?_
    refine sm_iload_n (pc := 92) (n := 3) dX9_spreads_92 rfl ?_
    refine sm_cV (pc := 93) (ci := 9) (n := 3) (mc := 0) (ms := 0) rfl m_X9_cellAt (cr_X9_214 (X := X_X9_spreads) (fr := 2 + (n + 1)) (frc := 2) (pc := 93) (mc := 0) (ms := 0) rfl (by omega) dX9_spreads_93) ?_
    refine sm_aload_n (pc := 96) (n := 0) dX9_spreads_96 rfl ?_
    refine sm_iload (pc := 97) (n := 7) dX9_spreads_97 ?_
    refine sm_iload_n (pc := 99) (n := 3) dX9_spreads_99 rfl ?_
    refine sm_cV (pc := 100) (ci := 9) (n := 3) (mc := 0) (ms := 0) rfl m_X9_cellAt (cr_X9_214 (X := X_X9_spreads) (fr := 2 + (n + 1)) (frc := 2) (pc := 100) (mc := 0) (ms := 0) rfl (by omega) dX9_spreads_100) ?_
    refine sm_cV (pc := 103) (ci := 9) (n := 3) (mc := 0) (ms := 0) rfl m_X9_swaps (cr_X9_231 (X := X_X9_spreads) (fr := 2 + (n + 1)) (frc := 1) (pc := 103) (mc := 0) (ms := 0) rfl (by omega) dX9_spreads_103) ?_
    refine sm_aload_n (pc := 106) (n := 0) dX9_spreads_106 rfl ?_
    refine gf_X9_81 (pc := 107) rfl dX9_spreads_107 ?_
    refine sm_aload_n (pc := 110) (n := 0) dX9_spreads_110 rfl ?_
    refine gf_X9_78 (pc := 111) rfl dX9_spreads_111 ?_
    refine sm_aload_n (pc := 114) (n := 0) dX9_spreads_114 rfl ?_
    refine sm_iload (pc := 115) (n := 4) dX9_spreads_115 ?_
    refine sm_iload_n (pc := 117) (n := 3) dX9_spreads_117 rfl ?_
    refine sm_cV (pc := 118) (ci := 9) (n := 3) (mc := 0) (ms := 0) rfl m_X9_cellAt (cr_X9_214 (X := X_X9_spreads) (fr := 2 + (n + 1)) (frc := 2) (pc := 118) (mc := 0) (ms := 0) rfl (by omega) dX9_spreads_118) ?_
    refine sm_iaload (pc := 121) dX9_spreads_121 ?_
    refine sm_iload (pc := 122) (n := 4) dX9_spreads_122 ?_
    refine sm_iastore (pc := 124) dX9_spreads_124 ?_
    exact scX9_spreads_125 n self hself P r81 hr81
noncomputable def bX9_spreads_57 {d : Nat} (self : List zV → zH d → zP d → Bool) (P : zP d) : zK d := (xild 4 (xild 6 (xcmp Nat.beq (xald 0 (xald 1 (xild 2 (xild 3 (xpI 1 (xbin zadd (xpI 0 (xild 5 (xcV 25 6 0 0 self (xvret P)))))))))) (xild 4 (xist 7 (xloop (fun r81 => (lX9_spreads_81 self P r81)) 100000))))))
set_option maxRecDepth 100000 in
set_option maxHeartbeats 4000000 in
theorem sbX9_spreads_57 {d : Nat} [zGh] (n : Nat) (self : List zV → zH d → zP d → Bool) (hself : zMet X_X9_spreads yX9_spreads (2 + n) self) (P : zP d) : zSim X_X9_spreads (2 + (n + 1)) P 57 (bX9_spreads_57 self P) := by
  unfold bX9_spreads_57
  refine sm_iload (pc := 57) (n := 4) dX9_spreads_57 ?_
  refine sm_iload (pc := 59) (n := 6) dX9_spreads_59 ?_
  refine sm_icmp_ne (pc := 61) (tgt := 77) dX9_spreads_61 (by decide) ?_ ?_
  · skip
    refine sm_iload (pc := 77) (n := 4) dX9_spreads_77 ?_
    refine sm_istore (pc := 79) (n := 7) dX9_spreads_79 ?_
    exact sm_loop (fun r81 hr81 => slX9_spreads_81 n self hself P r81 hr81) _
  · skip
    refine sm_aload_n (pc := 64) (n := 0) dX9_spreads_64 rfl ?_
    refine sm_aload_n (pc := 65) (n := 1) dX9_spreads_65 rfl ?_
    refine sm_iload_n (pc := 66) (n := 2) dX9_spreads_66 rfl ?_
    refine sm_iload_n (pc := 67) (n := 3) dX9_spreads_67 rfl ?_
    refine sm_iconst (pc := 68) dX9_spreads_68 zc_i_1 ?_
    refine sm_iadd (pc := 69) dX9_spreads_69 ?_
    refine sm_iconst (pc := 70) dX9_spreads_70 zc_i_0 ?_
    refine sm_iload (pc := 71) (n := 5) dX9_spreads_71 ?_
    refine sm_cV (pc := 73) (ci := 9) (n := 6) (mc := 0) (ms := 0) rfl hself (cr_X9_227 (X := X_X9_spreads) (fr := 2 + (n + 1)) (frc := 2 + n) (pc := 73) (mc := 0) (ms := 0) rfl (by omega) dX9_spreads_73) ?_
    exact sm_vreturn (pc := 76) dX9_spreads_76 rfl
noncomputable def lX9_spreads_30 {d : Nat} (self : List zV → zH d → zP d → Bool) (P : zP d) (r30 : zK d) : zK d := (xild 6 (xpI 6 (xjoin (bX9_spreads_57 self P) (fun j57 => (xcmp tge j57 (xald 0 (xald 0 (xgfI 25 25 (xild 6 (xcV 25 3 0 0 f_X9_partOf (xild 3 (xcmp tle j57 (xinc 6 1 r30)))))))))))))
set_option maxRecDepth 100000 in
set_option maxHeartbeats 4000000 in
theorem slX9_spreads_30 {d : Nat} [zGh] (n : Nat) (self : List zV → zH d → zP d → Bool) (hself : zMet X_X9_spreads yX9_spreads (2 + n) self) (P : zP d) (r30 : zK d) (hr30 : zSim X_X9_spreads (2 + (n + 1)) P 30 r30) : zSim X_X9_spreads (2 + (n + 1)) P 30 (lX9_spreads_30 self P r30) := by
  unfold lX9_spreads_30
  refine sm_iload (pc := 30) (n := 6) dX9_spreads_30 ?_
  refine sm_bipush (pc := 32) dX9_spreads_32 zc_b_6 ?_
  refine sm_join (pc := 34) (pc' := 57) (sbX9_spreads_57 n self hself P) (fun j57 hj57 => ?_)
  refine sm_icmp_ge (pc := 34) (tgt := 57) dX9_spreads_34 (by decide) ?_ ?_
  · skip
    exact hj57
  · skip
    refine sm_aload_n (pc := 37) (n := 0) dX9_spreads_37 rfl ?_
    refine sm_aload_n (pc := 38) (n := 0) dX9_spreads_38 rfl ?_
    refine gf_X9_205 (pc := 39) rfl dX9_spreads_39 ?_
    refine sm_iload (pc := 42) (n := 6) dX9_spreads_42 ?_
    refine sm_cV (pc := 44) (ci := 9) (n := 3) (mc := 0) (ms := 0) rfl m_X9_partOf (cr_X9_175 (X := X_X9_spreads) (fr := 2 + (n + 1)) (frc := 1) (pc := 44) (mc := 0) (ms := 0) rfl (by omega) dX9_spreads_44) ?_
    refine sm_iload_n (pc := 47) (n := 3) dX9_spreads_47 rfl ?_
    refine sm_icmp_le (pc := 48) (tgt := 57) dX9_spreads_48 (by decide) ?_ ?_
    · skip
      exact hj57
    · skip
      refine sm_iinc (pc := 51) (n := 6) dX9_spreads_51 zc_i_1 ?_
      refine sm_goto (pc := 54) (tgt := 30) dX9_spreads_54 (by decide) ?_
      exact hr30
noncomputable def b_X9_spreads {d : Nat} (self : List zV → zH d → zP d → Bool) (P : zP d) : zK d := (xild 3 (xald 0 (xald 0 (xgfI 25 25 (xpI 0 (xcV 25 3 0 0 f_X9_partOf (xcmp Nat.beq (xald 1 (xild 2 (xald 0 (xcV 25 1 0 0 f_X9_placeNow (xbin zadd (xdup2 (xald1 0 (xild 5 (xbin zadd (xast1 0 (fun v => v) (xvret P))))))))))) (xpI 0 (xist 6 (xloop (fun r30 => (lX9_spreads_30 self P r30)) 100000))))))))))
set_option maxRecDepth 100000 in
set_option maxHeartbeats 4000000 in
theorem s_X9_spreads {d : Nat} [zGh] (n : Nat) (self : List zV → zH d → zP d → Bool) (hself : zMet X_X9_spreads yX9_spreads (2 + n) self) (P : zP d) : zSim X_X9_spreads (2 + (n + 1)) P 0 (b_X9_spreads self P) := by
  unfold b_X9_spreads
  refine sm_iload_n (pc := 0) (n := 3) dX9_spreads_0 rfl ?_
  refine sm_aload_n (pc := 1) (n := 0) dX9_spreads_1 rfl ?_
  refine sm_aload_n (pc := 2) (n := 0) dX9_spreads_2 rfl ?_
  refine gf_X9_205 (pc := 3) rfl dX9_spreads_3 ?_
  refine sm_iconst (pc := 6) dX9_spreads_6 zc_i_0 ?_
  refine sm_cV (pc := 7) (ci := 9) (n := 3) (mc := 0) (ms := 0) rfl m_X9_partOf (cr_X9_175 (X := X_X9_spreads) (fr := 2 + (n + 1)) (frc := 1) (pc := 7) (mc := 0) (ms := 0) rfl (by omega) dX9_spreads_7) ?_
  refine sm_icmp_ne (pc := 10) (tgt := 27) dX9_spreads_10 (by decide) ?_ ?_
  · skip
    refine sm_iconst (pc := 27) dX9_spreads_27 zc_i_0 ?_
    refine sm_istore (pc := 28) (n := 6) dX9_spreads_28 ?_
    exact sm_loop (fun r30 hr30 => slX9_spreads_30 n self hself P r30 hr30) _
  · skip
    refine sm_aload_n (pc := 13) (n := 1) dX9_spreads_13 rfl ?_
    refine sm_iload_n (pc := 14) (n := 2) dX9_spreads_14 rfl ?_
    refine sm_aload_n (pc := 15) (n := 0) dX9_spreads_15 rfl ?_
    refine sm_cV (pc := 16) (ci := 9) (n := 1) (mc := 0) (ms := 0) rfl m_X9_placeNow (cr_X9_223 (X := X_X9_spreads) (fr := 2 + (n + 1)) (frc := 1) (pc := 16) (mc := 0) (ms := 0) rfl (by omega) dX9_spreads_16) ?_
    refine sm_iadd (pc := 19) dX9_spreads_19 ?_
    refine sm_dup2 (pc := 20) dX9_spreads_20 ?_
    refine sm_iaload (pc := 21) dX9_spreads_21 ?_
    refine sm_iload (pc := 22) (n := 5) dX9_spreads_22 ?_
    refine sm_iadd (pc := 24) dX9_spreads_24 ?_
    refine sm_iastore (pc := 25) dX9_spreads_25 ?_
    exact sm_vreturn (pc := 26) dX9_spreads_26 rfl
noncomputable def f_X9_spreads {d : Nat} : List zV → zH d → zP d → Bool := zrec 8 b_X9_spreads 14
theorem m_X9_spreads {d : Nat} : zMet (d := d) X_X9_spreads yX9_spreads 16 f_X9_spreads := zmet_rec (X := X_X9_spreads) (fr := 2) (by decide) rfl rfl (fun n f hf _ P => s_X9_spreads n f hf P) 14

abbrev X_X9_sumsOf : zM := (RX9, cX9_sumsOf, 4, none, "sumsOf")
noncomputable def cX9_sumsOf_75 {d : Nat} (P : zP d) (r36 : zK d) : zK d := (xast1 0 (fun v => v) (xinc 3 1 r36))
set_option maxRecDepth 100000 in
set_option maxHeartbeats 4000000 in
theorem scX9_sumsOf_75 {d : Nat} [zGh] (P : zP d) (r36 : zK d) (hr36 : zSim X_X9_sumsOf 17 P 36 r36) : zSim X_X9_sumsOf 17 P 75 (cX9_sumsOf_75 P r36) := by
  unfold cX9_sumsOf_75
  refine sm_iastore (pc := 75) dX9_sumsOf_75 ?_
  refine sm_iinc (pc := 76) (n := 3) dX9_sumsOf_76 zc_i_1 ?_
  refine sm_goto (pc := 79) (tgt := 36) dX9_sumsOf_79 (by decide) ?_
  exact hr36
noncomputable def lX9_sumsOf_36 {d : Nat} (P : zP d) (r21 : zK d) (r36 : zK d) : zK d := (xild 3 (xald 0 (xgfI 25 0 (xcmp tge (xald 0 (xald 1 (xpI 720 (xild 2 (xbin zmul (xpI 0 (xpI 0 (xpI 1 (xcV 25 6 0 0 f_X9_spreads (xinc 2 1 r21)))))))))) (xald 0 (xgfR 25 31 (xild 3 (xald 0 (xgfR 25 33 (xald 0 (xgfR 25 22 (xpI 6 (xald 0 (xgfR 25 20 (xald 0 (xgfI 25 25 (xald1 0 (xild 2 (xbin zadd (xbin zmul (xild 3 (xbin zadd (xald1 0 (xald1 0 (cX9_sumsOf_75 P r36)))))))))))))))))))))))))
set_option maxRecDepth 100000 in
set_option maxHeartbeats 4000000 in
theorem slX9_sumsOf_36 {d : Nat} [zGh] (P : zP d) (r21 : zK d) (r36 : zK d) (hr21 : zSim X_X9_sumsOf 17 P 21 r21) (hr36 : zSim X_X9_sumsOf 17 P 36 r36) : zSim X_X9_sumsOf 17 P 36 (lX9_sumsOf_36 P r21 r36) := by
  unfold lX9_sumsOf_36
  refine sm_iload_n (pc := 36) (n := 3) dX9_sumsOf_36 rfl ?_
  refine sm_aload_n (pc := 37) (n := 0) dX9_sumsOf_37 rfl ?_
  refine gf_X9_169 (pc := 38) rfl dX9_sumsOf_38 ?_
  refine sm_icmp_ge (pc := 41) (tgt := 82) dX9_sumsOf_41 (by decide) ?_ ?_
  · skip
    refine sm_aload_n (pc := 82) (n := 0) dX9_sumsOf_82 rfl ?_
    refine sm_aload_n (pc := 83) (n := 1) dX9_sumsOf_83 rfl ?_
    refine sm_sipush (pc := 84) dX9_sumsOf_84 zc_s_720 ?_
    refine sm_iload_n (pc := 87) (n := 2) dX9_sumsOf_87 rfl ?_
    refine sm_imul (pc := 88) dX9_sumsOf_88 ?_
    refine sm_iconst (pc := 89) dX9_sumsOf_89 zc_i_0 ?_
    refine sm_iconst (pc := 90) dX9_sumsOf_90 zc_i_0 ?_
    refine sm_iconst (pc := 91) dX9_sumsOf_91 zc_i_1 ?_
    refine sm_cV (pc := 92) (ci := 9) (n := 6) (mc := 0) (ms := 0) rfl m_X9_spreads (cr_X9_227 (X := X_X9_sumsOf) (fr := 17) (frc := 16) (pc := 92) (mc := 0) (ms := 0) rfl (by decide) dX9_sumsOf_92) ?_
    refine sm_iinc (pc := 95) (n := 2) dX9_sumsOf_95 zc_i_1 ?_
    refine sm_goto (pc := 98) (tgt := 21) dX9_sumsOf_98 (by decide) ?_
    exact hr21
  · skip
    refine sm_aload_n (pc := 44) (n := 0) dX9_sumsOf_44 rfl ?_
    refine gf_X9_78 (pc := 45) rfl dX9_sumsOf_45 ?_
    refine sm_iload_n (pc := 48) (n := 3) dX9_sumsOf_48 rfl ?_
    refine sm_aload_n (pc := 49) (n := 0) dX9_sumsOf_49 rfl ?_
    refine gf_X9_84 (pc := 50) rfl dX9_sumsOf_50 ?_
    refine sm_aload_n (pc := 53) (n := 0) dX9_sumsOf_53 rfl ?_
    refine gf_X9_59 (pc := 54) rfl dX9_sumsOf_54 ?_
    refine sm_bipush (pc := 57) dX9_sumsOf_57 zc_b_6 ?_
    refine sm_aload_n (pc := 59) (n := 0) dX9_sumsOf_59 rfl ?_
    refine gf_X9_53 (pc := 60) rfl dX9_sumsOf_60 ?_
    refine sm_aload_n (pc := 63) (n := 0) dX9_sumsOf_63 rfl ?_
    refine gf_X9_205 (pc := 64) rfl dX9_sumsOf_64 ?_
    refine sm_iaload (pc := 67) dX9_sumsOf_67 ?_
    refine sm_iload_n (pc := 68) (n := 2) dX9_sumsOf_68 rfl ?_
    refine sm_iadd (pc := 69) dX9_sumsOf_69 ?_
    refine sm_imul (pc := 70) dX9_sumsOf_70 ?_
    refine sm_iload_n (pc := 71) (n := 3) dX9_sumsOf_71 rfl ?_
    refine sm_iadd (pc := 72) dX9_sumsOf_72 ?_
    refine sm_iaload (pc := 73) dX9_sumsOf_73 ?_
    refine sm_iaload (pc := 74) dX9_sumsOf_74 ?_
    exact scX9_sumsOf_75 P r36 hr36
noncomputable def lX9_sumsOf_21 {d : Nat} (P : zP d) (r21 : zK d) : zK d := (xild 2 (xald 0 (xgfR 25 21 (xald 0 (xgfI 25 25 (xald1 0 (xcmp tge (xvret P) (xpI 0 (xist 3 (xloop (fun r36 => (lX9_sumsOf_36 P r21 r36)) 100000))))))))))
set_option maxRecDepth 100000 in
set_option maxHeartbeats 4000000 in
theorem slX9_sumsOf_21 {d : Nat} [zGh] (P : zP d) (r21 : zK d) (hr21 : zSim X_X9_sumsOf 17 P 21 r21) : zSim X_X9_sumsOf 17 P 21 (lX9_sumsOf_21 P r21) := by
  unfold lX9_sumsOf_21
  refine sm_iload_n (pc := 21) (n := 2) dX9_sumsOf_21 rfl ?_
  refine sm_aload_n (pc := 22) (n := 0) dX9_sumsOf_22 rfl ?_
  refine gf_X9_56 (pc := 23) rfl dX9_sumsOf_23 ?_
  refine sm_aload_n (pc := 26) (n := 0) dX9_sumsOf_26 rfl ?_
  refine gf_X9_205 (pc := 27) rfl dX9_sumsOf_27 ?_
  refine sm_iaload (pc := 30) dX9_sumsOf_30 ?_
  refine sm_icmp_ge (pc := 31) (tgt := 101) dX9_sumsOf_31 (by decide) ?_ ?_
  · skip
    exact sm_vreturn (pc := 101) dX9_sumsOf_101 rfl
  · skip
    refine sm_iconst (pc := 34) dX9_sumsOf_34 zc_i_0 ?_
    refine sm_istore_n (pc := 35) (n := 3) dX9_sumsOf_35 rfl ?_
    exact sm_loop (fun r36 hr36 => slX9_sumsOf_36 P r21 r36 hr21 hr36) _
noncomputable def lX9_sumsOf_2 {d : Nat} (P : zP d) (r2 : zK d) : zK d := (xild 2 (xpI 12000 (xcmp tge (xpI 0 (xist 2 (xloop (fun r21 => (lX9_sumsOf_21 P r21)) 100000))) (xald 1 (xild 2 (xpI 0 (xast1 0 (fun v => v) (xinc 2 1 r2))))))))
set_option maxRecDepth 100000 in
set_option maxHeartbeats 4000000 in
theorem slX9_sumsOf_2 {d : Nat} [zGh] (P : zP d) (r2 : zK d) (hr2 : zSim X_X9_sumsOf 17 P 2 r2) : zSim X_X9_sumsOf 17 P 2 (lX9_sumsOf_2 P r2) := by
  unfold lX9_sumsOf_2
  refine sm_iload_n (pc := 2) (n := 2) dX9_sumsOf_2 rfl ?_
  refine sm_sipush (pc := 3) dX9_sumsOf_3 zc_s_12000 ?_
  refine sm_icmp_ge (pc := 6) (tgt := 19) dX9_sumsOf_6 (by decide) ?_ ?_
  · skip
    refine sm_iconst (pc := 19) dX9_sumsOf_19 zc_i_0 ?_
    refine sm_istore_n (pc := 20) (n := 2) dX9_sumsOf_20 rfl ?_
    exact sm_loop (fun r21 hr21 => slX9_sumsOf_21 P r21 hr21) _
  · skip
    refine sm_aload_n (pc := 9) (n := 1) dX9_sumsOf_9 rfl ?_
    refine sm_iload_n (pc := 10) (n := 2) dX9_sumsOf_10 rfl ?_
    refine sm_iconst (pc := 11) dX9_sumsOf_11 zc_i_0 ?_
    refine sm_iastore (pc := 12) dX9_sumsOf_12 ?_
    refine sm_iinc (pc := 13) (n := 2) dX9_sumsOf_13 zc_i_1 ?_
    refine sm_goto (pc := 16) (tgt := 2) dX9_sumsOf_16 (by decide) ?_
    exact hr2
noncomputable def b_X9_sumsOf {d : Nat} (P : zP d) : zK d := (xpI 0 (xist 2 (xloop (fun r2 => (lX9_sumsOf_2 P r2)) 100000)))
set_option maxRecDepth 100000 in
set_option maxHeartbeats 4000000 in
theorem s_X9_sumsOf {d : Nat} [zGh] (P : zP d) : zSim X_X9_sumsOf 17 P 0 (b_X9_sumsOf P) := by
  unfold b_X9_sumsOf
  refine sm_iconst (pc := 0) dX9_sumsOf_0 zc_i_0 ?_
  refine sm_istore_n (pc := 1) (n := 2) dX9_sumsOf_1 rfl ?_
  exact sm_loop (fun r2 hr2 => slX9_sumsOf_2 P r2 hr2) _
noncomputable def f_X9_sumsOf {d : Nat} : List zV → zH d → zP d → Bool := zfn 4 b_X9_sumsOf
theorem m_X9_sumsOf {d : Nat} : zMet (d := d) X_X9_sumsOf yX9_sumsOf 17 f_X9_sumsOf := zmet_mk (X := X_X9_sumsOf) (by decide) rfl rfl s_X9_sumsOf
end
section
/-! the reference's long loop that lays an array 0, at one stroke -/
/-- the words below n are 0 -/
def zclr (x n : Nat) : Nat := Nat.shiftLeft (Nat.shiftRight x (Nat.mul 40 n)) (Nat.mul 40 n)
theorem zclr_bit (x n t : Nat) : (zclr x n).testBit t = (decide (40 * n ≤ t) && x.testBit t) := by
  show ((x >>> (40 * n)) <<< (40 * n)).testBit t = _
  rw [Nat.testBit_shiftLeft, Nat.testBit_shiftRight]
  by_cases h : 40 * n ≤ t
  · rw [show 40 * n + (t - 40 * n) = t by omega]
  · simp [h]
theorem zclr_zero (x : Nat) : zclr x 0 = x := by
  apply Nat.eq_of_testBit_eq
  intro t
  rw [zclr_bit]
  simp
theorem zclr_succ (x n : Nat) : zup 40 (zclr x n) n 0 = zclr x (n + 1) := by
  apply Nat.eq_of_testBit_eq
  intro t
  rw [zup_bit, zclr_bit, zclr_bit]
  by_cases h1 : 40 * n ≤ t
  · by_cases h2 : 40 * (n + 1) ≤ t
    · rw [Nat.testBit_lt_two_pow (x := zwd 40 (zclr x n) n) (Nat.lt_of_lt_of_le (zwd_lt _ _ _) (Nat.pow_le_pow_right (by decide) (show 40 ≤ t - 40 * n by omega)))]
      simp [h1, h2]
    · rw [zwd_bit _ _ _ _ (show t - 40 * n < 40 by omega), zclr_bit, show 40 * n + (t - 40 * n) = t by omega]
      simp [h1, h2]
  · have h2 : ¬ 40 * (n + 1) ≤ t := by omega
    simp [h1, h2]
theorem zset_set (d : Nat) : ∀ (t : zT d) (i : Nat) (a b : zC), zset d (zset d t i a) i b = zset d t i b := by
  induction d with
  | zero => intro t i a b; rfl
  | succ d ih =>
    intro t i a b
    have key : ∀ t : zT d × zT d, zset (d + 1) (zset (d + 1) t i a) i b = zset (d + 1) t i b := by
      intro t
      cases t with
      | mk u v =>
        show cond (Nat.ble (Nat.pow 2 d) i) (Prod.fst (α := zT d) (β := zT d) (cond (Nat.ble (Nat.pow 2 d) i) (u, zset d v (Nat.sub i (Nat.pow 2 d)) a) (zset d u i a, v)), zset d (Prod.snd (α := zT d) (β := zT d) (cond (Nat.ble (Nat.pow 2 d) i) (u, zset d v (Nat.sub i (Nat.pow 2 d)) a) (zset d u i a, v))) (Nat.sub i (Nat.pow 2 d)) b) (zset d (Prod.fst (α := zT d) (β := zT d) (cond (Nat.ble (Nat.pow 2 d) i) (u, zset d v (Nat.sub i (Nat.pow 2 d)) a) (zset d u i a, v))) i b, Prod.snd (α := zT d) (β := zT d) (cond (Nat.ble (Nat.pow 2 d) i) (u, zset d v (Nat.sub i (Nat.pow 2 d)) a) (zset d u i a, v))) = cond (Nat.ble (Nat.pow 2 d) i) (u, zset d v (Nat.sub i (Nat.pow 2 d)) b) (zset d u i b, v)
        cases Nat.ble (Nat.pow 2 d) i
        · show (zset d (zset d u i a) i b, v) = (zset d u i b, v)
          rw [ih]
        · show (u, zset d (zset d v (Nat.sub i (Nat.pow 2 d)) a) (Nat.sub i (Nat.pow 2 d)) b) = (u, zset d v (Nat.sub i (Nat.pow 2 d)) b)
          rw [ih]
    exact key t
theorem zset_get (d : Nat) : ∀ (t : zT d) (i : Nat), zset d t i (zget d t i) = t := by
  induction d with
  | zero => intro t i; rfl
  | succ d ih =>
    intro t i
    have key : ∀ t : zT d × zT d, zset (d + 1) t i (zget (d + 1) t i) = t := by
      intro t
      cases t with
      | mk u v =>
        show cond (Nat.ble (Nat.pow 2 d) i) (u, zset d v (Nat.sub i (Nat.pow 2 d)) (cond (Nat.ble (Nat.pow 2 d) i) (zget d v (Nat.sub i (Nat.pow 2 d))) (zget d u i))) (zset d u i (cond (Nat.ble (Nat.pow 2 d) i) (zget d v (Nat.sub i (Nat.pow 2 d))) (zget d u i)), v) = (u, v)
        cases Nat.ble (Nat.pow 2 d) i
        · show (zset d u i (zget d u i), v) = (u, v)
          rw [ih]
        · show (u, zset d v (Nat.sub i (Nat.pow 2 d)) (zget d v (Nat.sub i (Nat.pow 2 d)))) = (u, v)
          rw [ih]
    exact key t
theorem zlt_lor {i n : Nat} (h1 : i < 2 ^ 31) (h2 : n < 2 ^ 31) : Nat.ble 4294967296 (Nat.lor i n) = false ∧ Nat.ble 2147483648 (Nat.lor i n) = false := by
  have h : Nat.lor i n < 2 ^ 31 := Nat.or_lt_two_pow h1 h2
  have h' : Nat.lor i n < 2147483648 := h
  constructor
  · cases hb : Nat.ble 4294967296 (Nat.lor i n)
    · rfl
    · have := Nat.le_of_ble_eq_true hb; omega
  · cases hb : Nat.ble 2147483648 (Nat.lor i n)
    · rfl
    · have := Nat.le_of_ble_eq_true hb; omega
theorem zble_lt {a b : Nat} (h : b < a) : Nat.ble a b = false := by
  cases hb : Nat.ble a b
  · rfl
  · have := Nat.le_of_ble_eq_true hb; omega
theorem ztge_lt {i n : Nat} (h : i < n) (hn : n < 2 ^ 31) : tge i n = false := by
  unfold tge zlei
  rw [(zlt_lor (i := n) (n := i) hn (by omega)).2, cond_false]
  exact zble_lt h
theorem ztge_ge {i n : Nat} (h : n ≤ i) (hi : i < 2 ^ 31) : tge i n = true := by
  unfold tge zlei
  rw [(zlt_lor (i := n) (n := i) (by omega) hi).2, cond_false]
  exact Nat.ble_eq_true_of_le h
section ZERO
variable {d : Nat} {P : zP d}
/-- behind the loop -/
noncomputable def ezero (P : zP d) : zK d := (xpI 0 (xist 2 (xloop (fun r21 => (lX9_sumsOf_21 P r21)) 100000)))
theorem zero_step {r2 : zK d} {a w : zV} {j i len x : Nat} {t : zT d} {u : Nat × (Nat × Nat)} (hg : zget d t j = (0, len, x)) (hi : i < 12000) (hl : 12000 ≤ len) : lX9_sumsOf_2 P r2 [a, zR (j + 1), zI i, w] [] (t, u) = r2 [a, zR (j + 1), zI (i + 1), w] [] (zset d t j (0, len, zup 40 x i 0), u) := by
  unfold lX9_sumsOf_2
  show cond (Nat.ble 4294967296 (Nat.lor i 12000)) _ (cond (tge i 12000) _ (zat (t, u) (j + 1) (fun t u j kd len x => cond (Nat.beq kd 0) (cond (Nat.ble len i) false (zF (fun y => zsetK d t j (kd, len, y) (fun t => xinc 2 1 r2 [a, zR (j + 1), zI i, w] [] (t, u))) (zup 40 x i (zcap 0)))) false))) = _
  rw [(zlt_lor (i := i) (n := 12000) (by omega) (by decide)).1, cond_false, ztge_lt hi (by decide), cond_false]
  show Prod.rec (motive := fun _ => Bool) (fun kd v => Prod.rec (motive := fun _ => Bool) (fun len x => cond (Nat.beq kd 0) (cond (Nat.ble len i) false (zF (fun y => zsetK d t j (kd, len, y) (fun t => xinc 2 1 r2 [a, zR (j + 1), zI i, w] [] (t, u))) (zup 40 x i (zcap 0)))) false) v) (zget d t j) = _
  rw [hg]
  show cond (Nat.beq 0 0) (cond (Nat.ble len i) false (zF (fun y => zsetK d t j (0, len, y) (fun t => xinc 2 1 r2 [a, zR (j + 1), zI i, w] [] (t, u))) (zup 40 x i (zcap 0)))) false = _
  rw [show Nat.beq 0 0 = true from rfl, cond_true, zble_lt (show i < len by omega), cond_false, zF_eq, zsetK_eq]
  show zF (fun w' => r2 [a, zR (j + 1), zI w', w] [] (zset d t j (0, len, zup 40 x i (zcap 0)), u)) (zadd i 1) = _
  rw [zF_eq]
  have e1 : zadd i 1 = i + 1 := by
    show zk2 i 1 (Nat.mod (Nat.add i 1) 4294967296) = i + 1
    unfold zk2
    rw [(zlt_lor (i := i) (n := 1) (by omega) (by decide)).1, cond_false]
    exact Nat.mod_eq_of_lt (show i + 1 < 4294967296 by omega)
  rw [e1]
  rfl
theorem zero_end {r2 : zK d} {a w b : zV} {h : zH d} : lX9_sumsOf_2 P r2 [a, b, zI 12000, w] [] h = ezero P [a, b, zI 12000, w] [] h := rfl
theorem zero_loop {a w : zV} {j len x : Nat} {t : zT d} {u : Nat × (Nat × Nat)} (hj : j < 2 ^ d) (hl : 12000 ≤ len) : ∀ (n i fuel : Nat), i + n = 12000 → n < fuel → zget d t j = (0, len, x) → xloop (fun r2 => lX9_sumsOf_2 P r2) fuel [a, zR (j + 1), zI i, w] [] (zset d t j (0, len, zclr x i), u) = ezero P [a, zR (j + 1), zI 12000, w] [] (zset d t j (0, len, zclr x 12000), u)
  | 0, i, 0, h, hf, _ => absurd hf (by omega)
  | 0, i, f + 1, h, hf, hg => by
    have e : i = 12000 := by omega
    subst e
    exact zero_end
  | n + 1, i, 0, h, hf, _ => absurd hf (by omega)
  | n + 1, i, f + 1, h, hf, hg => by
    have s := zero_step (P := P) (r2 := xloop (fun r2 => lX9_sumsOf_2 P r2) f) (a := a) (w := w) (j := j) (i := i) (len := len) (x := zclr x i) (t := zset d t j (0, len, zclr x i)) (u := u) (zget_set_same d t j _ hj) (by omega) hl
    rw [zset_set, zclr_succ] at s
    exact s.trans (zero_loop hj hl n (i + 1) f (by omega) (by omega) hg)
/-- at one stroke -/
noncomputable def bz_sumsOf (P : zP d) : zK d := fun L S h => List.rec (motive := fun _ => Bool) (List.rec (motive := fun _ => Bool) false (fun a L1 _ => List.rec (motive := fun _ => Bool) false (fun b L2 _ => List.rec (motive := fun _ => Bool) false (fun _ L3 _ => List.rec (motive := fun _ => Bool) false (fun w L4 _ => List.rec (motive := fun _ => Bool) (Sum.rec (motive := fun _ => Bool) (fun _ => false) (fun v => Sum.rec (motive := fun _ => Bool) (fun r => zat h r (fun t u j kd len x => cond (Nat.beq kd 0) (cond (Nat.ble 12000 len) (cond (Nat.ble (Nat.pow 2 d) j) false (zF (fun y => zsetK d t j (0, len, y) (fun t => ezero P [a, b, zI 12000, w] [] (t, u))) (zclr x 12000))) false) false)) (fun _ => false) v) b) (fun _ _ _ => false) L4) L3) L2) L1) L) (fun _ _ _ => false) S
theorem bz_t {L : List zV} {h : zH d} (hk : bz_sumsOf P L [] h = true) : b_X9_sumsOf P L [] h = true := by
  match L, hk with
  | [], hk => cases hk
  | [_], hk => cases hk
  | [_, _], hk => cases hk
  | [_, _, _], hk => cases hk
  | _ :: b :: _ :: _ :: _ :: _, hk => cases hk
  | [a, b, c, w], hk =>
    match b, hk with
    | .inl _, hk => cases hk
    | .inr (.inr _), hk => cases hk
    | .inr (.inl r), hk =>
      have hk : zat h r (fun t u j kd len x => cond (Nat.beq kd 0) (cond (Nat.ble 12000 len) (cond (Nat.ble (Nat.pow 2 d) j) false (zF (fun y => zsetK d t j (0, len, y) (fun t => ezero P [a, zR r, zI 12000, w] [] (t, u))) (zclr x 12000))) false) false) = true := hk
      obtain ⟨j, kd, len, x, rfl, hg, hk2⟩ := zat_t hk
      have hk2 : cond (Nat.beq kd 0) (cond (Nat.ble 12000 len) (cond (Nat.ble (Nat.pow 2 d) j) false (zF (fun y => zsetK d h.1 j (0, len, y) (fun t => ezero P [a, zR (j + 1), zI 12000, w] [] (t, h.2))) (zclr x 12000))) false) false = true := hk2
      cases h1 : Nat.beq kd 0
      · rw [h1] at hk2; cases hk2
      · cases h2 : Nat.ble 12000 len
        · rw [h1, h2] at hk2; cases hk2
        · cases h3 : Nat.ble (Nat.pow 2 d) j
          · have e := Nat.eq_of_beq_eq_true h1
            subst e
            rw [h1, h2, h3, cond_true, cond_true, cond_false, zF_eq, zsetK_eq] at hk2
            unfold b_X9_sumsOf
            have key := zero_loop (P := P) (a := a) (w := w) (u := h.2) (t := h.1) (zble_f h3) (Nat.le_of_ble_eq_true h2) 12000 0 100000 rfl (by decide) hg
            rw [zclr_zero, ← hg, zset_get] at key
            have hst : xpI 0 (xist 2 (xloop (fun r2 => lX9_sumsOf_2 P r2) 100000)) [a, zR (j + 1), c, w] [] h = xloop (fun r2 => lX9_sumsOf_2 P r2) 100000 [a, zR (j + 1), zI 0, w] [] (h.1, h.2) := by
              show zfix (zR (j + 1)) (fun w' => xloop (fun r2 => lX9_sumsOf_2 P r2) 100000 [a, w', zI 0, w] [] h) = _
              rfl
            exact hst.trans (key.trans hk2)
          · rw [h1, h2, h3] at hk2; cases hk2
/-- a quicker machine that says yes where this one does -/
theorem zMet_quick {X : zM} {y : MethodName} {fr : Nat} {f g : List zV → zH d → zP d → Bool} (hf : zMet X y fr f) (h : ∀ as h P, g as h P = true → f as h P = true) : zMet X y fr g := fun l cA D ws av as hh P sz hg => hf l cA D ws av as hh P sz (h as hh P hg)
theorem zen_mono : ∀ (as : List zV) (n : Nat) {k k' : List zV → Bool}, (∀ L, k L = true → k' L = true) → zen as n k = true → zen as n k' = true
  | [], n, k, k', hkk, h => by
    have : ∀ (n : Nat) (k k' : List zV → Bool), (∀ L, k L = true → k' L = true) → zpad n k = true → zpad n k' = true := by
      intro n
      induction n with
      | zero => intro k k' hkk h; exact hkk _ h
      | succ n ih => intro k k' hkk h; exact ih (fun t => k (zU :: t)) (fun t => k' (zU :: t)) (fun L hL => hkk _ hL) h
    exact this n k k' hkk h
  | v :: as, 0, k, k', hkk, h => by cases h
  | .inl a :: as, n + 1, k, k', hkk, h => zen_mono as n (k := fun t => k (zI a :: t)) (k' := fun t => k' (zI a :: t)) (fun L hL => hkk _ hL) h
  | .inr (.inl a) :: as, n + 1, k, k', hkk, h => zen_mono as n (k := fun t => k (zR a :: t)) (k' := fun t => k' (zR a :: t)) (fun L hL => hkk _ hL) h
  | .inr (.inr (.inl a)) :: as, 1, k, k', hkk, h => by cases h
  | .inr (.inr (.inl a)) :: as, n + 2, k, k', hkk, h => zen_mono as n (k := fun t => k (zL a :: zU :: t)) (k' := fun t => k' (zL a :: zU :: t)) (fun L hL => hkk _ hL) h
  | .inr (.inr (.inr a)) :: as, n + 1, k, k', hkk, h => zen_mono as n (k := fun t => k (zW a :: t)) (k' := fun t => k' (zW a :: t)) (fun L hL => hkk _ hL) h
noncomputable def g_X9_sumsOf : List zV → zH d → zP d → Bool := zfn 4 bz_sumsOf
theorem mg_X9_sumsOf : zMet (d := d) X_X9_sumsOf yX9_sumsOf 17 g_X9_sumsOf := zMet_quick m_X9_sumsOf (fun as h P hg => zen_mono as 4 (fun L hL => bz_t hL) hg)
end ZERO
end
section
/-! the reference, by program -/
abbrev X_X9_begins : zM := (RX9, cX9_begins, 3, none, "begins")
noncomputable def lX9_begins_40 {d : Nat} (P : zP d) (r40 : zK d) : zK d := (xild 2 (xald 0 (xgfI 25 0 (xcmp tle (xald 0 (xgfR 25 33 (xild 2 (xild 2 (xast1 0 (fun v => v) (xinc 2 1 r40)))))) (xald 0 (xald 0 (xgfR 25 29 (xcV 25 2 0 0 g_X9_sumsOf (xvret P)))))))))
set_option maxRecDepth 100000 in
set_option maxHeartbeats 4000000 in
theorem slX9_begins_40 {d : Nat} [zGh] (P : zP d) (r40 : zK d) (hr40 : zSim X_X9_begins 18 P 40 r40) : zSim X_X9_begins 18 P 40 (lX9_begins_40 P r40) := by
  unfold lX9_begins_40
  refine sm_iload_n (pc := 40) (n := 2) dX9_begins_40 rfl ?_
  refine sm_aload_n (pc := 41) (n := 0) dX9_begins_41 rfl ?_
  refine gf_X9_169 (pc := 42) rfl dX9_begins_42 ?_
  refine sm_icmp_gt (pc := 45) (tgt := 61) dX9_begins_45 (by decide) ?_ ?_
  · skip
    refine sm_aload_n (pc := 61) (n := 0) dX9_begins_61 rfl ?_
    refine sm_aload_n (pc := 62) (n := 0) dX9_begins_62 rfl ?_
    refine gf_X9_72 (pc := 63) rfl dX9_begins_63 ?_
    refine sm_cV (pc := 66) (ci := 9) (n := 2) (mc := 0) (ms := 0) rfl mg_X9_sumsOf (cr_X9_234 (X := X_X9_begins) (fr := 18) (frc := 17) (pc := 66) (mc := 0) (ms := 0) rfl (by decide) dX9_begins_66) ?_
    exact sm_vreturn (pc := 69) dX9_begins_69 rfl
  · skip
    refine sm_aload_n (pc := 48) (n := 0) dX9_begins_48 rfl ?_
    refine gf_X9_84 (pc := 49) rfl dX9_begins_49 ?_
    refine sm_iload_n (pc := 52) (n := 2) dX9_begins_52 rfl ?_
    refine sm_iload_n (pc := 53) (n := 2) dX9_begins_53 rfl ?_
    refine sm_iastore (pc := 54) dX9_begins_54 ?_
    refine sm_iinc (pc := 55) (n := 2) dX9_begins_55 zc_i_1 ?_
    refine sm_goto (pc := 58) (tgt := 40) dX9_begins_58 (by decide) ?_
    exact hr40
noncomputable def lX9_begins_2 {d : Nat} (P : zP d) (r2 : zK d) : zK d := (xild 2 (xald 0 (xgfI 25 28 (xcmp tge (xald 0 (xpI 0 (xpfI 25 28 (xald 0 (xild 1 (xpfI 25 25 (xpI 1 (xist 2 (xloop (fun r40 => (lX9_begins_40 P r40)) 100000))))))))) (xald 0 (xgfR 25 26 (xald 0 (xgfR 25 27 (xild 2 (xald1 0 (xpI 0 (xast1 0 (fun v => v) (xinc 2 1 r2)))))))))))))
set_option maxRecDepth 100000 in
set_option maxHeartbeats 4000000 in
theorem slX9_begins_2 {d : Nat} [zGh] (P : zP d) (r2 : zK d) (hr2 : zSim X_X9_begins 18 P 2 r2) : zSim X_X9_begins 18 P 2 (lX9_begins_2 P r2) := by
  unfold lX9_begins_2
  refine sm_iload_n (pc := 2) (n := 2) dX9_begins_2 rfl ?_
  refine sm_aload_n (pc := 3) (n := 0) dX9_begins_3 rfl ?_
  refine gf_X9_220 (pc := 4) rfl dX9_begins_4 ?_
  refine sm_icmp_ge (pc := 7) (tgt := 28) dX9_begins_7 (by decide) ?_ ?_
  · skip
    refine sm_aload_n (pc := 28) (n := 0) dX9_begins_28 rfl ?_
    refine sm_iconst (pc := 29) dX9_begins_29 zc_i_0 ?_
    refine pf_X9_220 (pc := 30) rfl dX9_begins_30 ?_
    refine sm_aload_n (pc := 33) (n := 0) dX9_begins_33 rfl ?_
    refine sm_iload_n (pc := 34) (n := 1) dX9_begins_34 rfl ?_
    refine pf_X9_205 (pc := 35) rfl dX9_begins_35 ?_
    refine sm_iconst (pc := 38) dX9_begins_38 zc_i_1 ?_
    refine sm_istore_n (pc := 39) (n := 2) dX9_begins_39 rfl ?_
    exact sm_loop (fun r40 hr40 => slX9_begins_40 P r40 hr40) _
  · skip
    refine sm_aload_n (pc := 10) (n := 0) dX9_begins_10 rfl ?_
    refine gf_X9_66 (pc := 11) rfl dX9_begins_11 ?_
    refine sm_aload_n (pc := 14) (n := 0) dX9_begins_14 rfl ?_
    refine gf_X9_69 (pc := 15) rfl dX9_begins_15 ?_
    refine sm_iload_n (pc := 18) (n := 2) dX9_begins_18 rfl ?_
    refine sm_iaload (pc := 19) dX9_begins_19 ?_
    refine sm_iconst (pc := 20) dX9_begins_20 zc_i_0 ?_
    refine sm_iastore (pc := 21) dX9_begins_21 ?_
    refine sm_iinc (pc := 22) (n := 2) dX9_begins_22 zc_i_1 ?_
    refine sm_goto (pc := 25) (tgt := 2) dX9_begins_25 (by decide) ?_
    exact hr2
noncomputable def b_X9_begins {d : Nat} (P : zP d) : zK d := (xpI 0 (xist 2 (xloop (fun r2 => (lX9_begins_2 P r2)) 100000)))
set_option maxRecDepth 100000 in
set_option maxHeartbeats 4000000 in
theorem s_X9_begins {d : Nat} [zGh] (P : zP d) : zSim X_X9_begins 18 P 0 (b_X9_begins P) := by
  unfold b_X9_begins
  refine sm_iconst (pc := 0) dX9_begins_0 zc_i_0 ?_
  refine sm_istore_n (pc := 1) (n := 2) dX9_begins_1 rfl ?_
  exact sm_loop (fun r2 hr2 => slX9_begins_2 P r2 hr2) _
noncomputable def f_X9_begins {d : Nat} : List zV → zH d → zP d → Bool := zfn 3 b_X9_begins
theorem m_X9_begins {d : Nat} : zMet (d := d) X_X9_begins yX9_begins 18 f_X9_begins := zmet_mk (X := X_X9_begins) (by decide) rfl rfl s_X9_begins

abbrev X_X9_form : zM := (RX9, cX9_form, 7, (some .int), "form")
noncomputable def lX9_form_6 {d : Nat} (P : zP d) (r6 : zK d) : zK d := (xild 6 (xald 0 (xgfI 25 28 (xcmp tge (xild 5 (xiret P)) (xild 5 (xald 1 (xpI 720 (xild 2 (xbin zmul (xild 6 (xbin zadd (xald1 0 (xald 3 (xpI 720 (xild 4 (xbin zmul (xild 6 (xbin zadd (xald1 0 (xbin zmul (xbin zadd (xist 5 (xinc 6 1 r6)))))))))))))))))))))))
set_option maxRecDepth 100000 in
set_option maxHeartbeats 4000000 in
theorem slX9_form_6 {d : Nat} [zGh] (P : zP d) (r6 : zK d) (hr6 : zSim X_X9_form 1 P 6 r6) : zSim X_X9_form 1 P 6 (lX9_form_6 P r6) := by
  unfold lX9_form_6
  refine sm_iload (pc := 6) (n := 6) dX9_form_6 ?_
  refine sm_aload_n (pc := 8) (n := 0) dX9_form_8 rfl ?_
  refine gf_X9_220 (pc := 9) rfl dX9_form_9 ?_
  refine sm_icmp_ge (pc := 12) (tgt := 48) dX9_form_12 (by decide) ?_ ?_
  · skip
    refine sm_iload (pc := 48) (n := 5) dX9_form_48 ?_
    exact sm_ireturn (pc := 50) dX9_form_50 rfl
  · skip
    refine sm_iload (pc := 15) (n := 5) dX9_form_15 ?_
    refine sm_aload_n (pc := 17) (n := 1) dX9_form_17 rfl ?_
    refine sm_sipush (pc := 18) dX9_form_18 zc_s_720 ?_
    refine sm_iload_n (pc := 21) (n := 2) dX9_form_21 rfl ?_
    refine sm_imul (pc := 22) dX9_form_22 ?_
    refine sm_iload (pc := 23) (n := 6) dX9_form_23 ?_
    refine sm_iadd (pc := 25) dX9_form_25 ?_
    refine sm_iaload (pc := 26) dX9_form_26 ?_
    refine sm_aload_n (pc := 27) (n := 3) dX9_form_27 rfl ?_
    refine sm_sipush (pc := 28) dX9_form_28 zc_s_720 ?_
    refine sm_iload (pc := 31) (n := 4) dX9_form_31 ?_
    refine sm_imul (pc := 33) dX9_form_33 ?_
    refine sm_iload (pc := 34) (n := 6) dX9_form_34 ?_
    refine sm_iadd (pc := 36) dX9_form_36 ?_
    refine sm_iaload (pc := 37) dX9_form_37 ?_
    refine sm_imul (pc := 38) dX9_form_38 ?_
    refine sm_iadd (pc := 39) dX9_form_39 ?_
    refine sm_istore (pc := 40) (n := 5) dX9_form_40 ?_
    refine sm_iinc (pc := 42) (n := 6) dX9_form_42 zc_i_1 ?_
    refine sm_goto (pc := 45) (tgt := 6) dX9_form_45 (by decide) ?_
    exact hr6
noncomputable def b_X9_form {d : Nat} (P : zP d) : zK d := (xpI 0 (xist 5 (xpI 0 (xist 6 (xloop (fun r6 => (lX9_form_6 P r6)) 100000)))))
set_option maxRecDepth 100000 in
set_option maxHeartbeats 4000000 in
theorem s_X9_form {d : Nat} [zGh] (P : zP d) : zSim X_X9_form 1 P 0 (b_X9_form P) := by
  unfold b_X9_form
  refine sm_iconst (pc := 0) dX9_form_0 zc_i_0 ?_
  refine sm_istore (pc := 1) (n := 5) dX9_form_1 ?_
  refine sm_iconst (pc := 3) dX9_form_3 zc_i_0 ?_
  refine sm_istore (pc := 4) (n := 6) dX9_form_4 ?_
  exact sm_loop (fun r6 hr6 => slX9_form_6 P r6 hr6) _
noncomputable def f_X9_form {d : Nat} : List zV → zH d → zP d → Bool := zfn 7 b_X9_form
theorem m_X9_form {d : Nat} : zMet (d := d) X_X9_form yX9_form 1 f_X9_form := zmet_mk (X := X_X9_form) (by decide) rfl rfl s_X9_form

abbrev X_X9_power : zM := (RX9, cX9_power, 8, (some .int), "power")
noncomputable def bX9_power_30 {d : Nat} (P : zP d) (r9 : zK d) : zK d := (xlld 5 (xlld 5 (xbinj zmulj (xild 2 (xi2l (xbinjN zremj (xlst 5 (xild 7 (xpI 1 (xbin zshr (xist 7 r9)))))))))))
set_option maxRecDepth 100000 in
set_option maxHeartbeats 4000000 in
theorem sbX9_power_30 {d : Nat} [zGh] (P : zP d) (r9 : zK d) (hr9 : zSim X_X9_power 1 P 9 r9) : zSim X_X9_power 1 P 30 (bX9_power_30 P r9) := by
  unfold bX9_power_30
  refine sm_lload (pc := 30) (n := 5) dX9_power_30 ?_
  refine sm_lload (pc := 32) (n := 5) dX9_power_32 ?_
  refine sm_lmul (pc := 34) dX9_power_34 ?_
  refine sm_iload_n (pc := 35) (n := 2) dX9_power_35 rfl ?_
  refine sm_i2l (pc := 36) dX9_power_36 ?_
  refine sm_lrem (pc := 37) dX9_power_37 ?_
  refine sm_lstore (pc := 38) (n := 5) dX9_power_38 ?_
  refine sm_iload (pc := 40) (n := 7) dX9_power_40 ?_
  refine sm_iconst (pc := 42) dX9_power_42 zc_i_1 ?_
  refine sm_ishr (pc := 43) dX9_power_43 ?_
  refine sm_istore (pc := 44) (n := 7) dX9_power_44 ?_
  refine sm_goto (pc := 46) (tgt := 9) dX9_power_46 (by decide) ?_
  exact hr9
noncomputable def lX9_power_9 {d : Nat} (P : zP d) (r9 : zK d) : zK d := (xild 7 (xif0 t0le (xlld 3 (xl2i (xiret P))) (xild 7 (xpI 1 (xbin zand (xpI 1 (xjoin (bX9_power_30 P r9) (fun j30 => (xcmp Nat.beq (xlld 3 (xlld 5 (xbinj zmulj (xild 2 (xi2l (xbinjN zremj (xlst 3 j30))))))) j30)))))))))
set_option maxRecDepth 100000 in
set_option maxHeartbeats 4000000 in
theorem slX9_power_9 {d : Nat} [zGh] (P : zP d) (r9 : zK d) (hr9 : zSim X_X9_power 1 P 9 r9) : zSim X_X9_power 1 P 9 (lX9_power_9 P r9) := by
  unfold lX9_power_9
  refine sm_iload (pc := 9) (n := 7) dX9_power_9 ?_
  refine sm_if_le (pc := 11) (tgt := 49) dX9_power_11 (by decide) ?_ ?_
  · skip
    refine sm_lload_n (pc := 49) (n := 3) dX9_power_49 rfl ?_
    refine sm_l2i (pc := 50) dX9_power_50 ?_
    exact sm_ireturn (pc := 51) dX9_power_51 rfl
  · skip
    refine sm_iload (pc := 14) (n := 7) dX9_power_14 ?_
    refine sm_iconst (pc := 16) dX9_power_16 zc_i_1 ?_
    refine sm_iand (pc := 17) dX9_power_17 ?_
    refine sm_iconst (pc := 18) dX9_power_18 zc_i_1 ?_
    refine sm_join (pc := 19) (pc' := 30) (sbX9_power_30 P r9 hr9) (fun j30 hj30 => ?_)
    refine sm_icmp_ne (pc := 19) (tgt := 30) dX9_power_19 (by decide) ?_ ?_
    · skip
      exact hj30
    · skip
      refine sm_lload_n (pc := 22) (n := 3) dX9_power_22 rfl ?_
      refine sm_lload (pc := 23) (n := 5) dX9_power_23 ?_
      refine sm_lmul (pc := 25) dX9_power_25 ?_
      refine sm_iload_n (pc := 26) (n := 2) dX9_power_26 rfl ?_
      refine sm_i2l (pc := 27) dX9_power_27 ?_
      refine sm_lrem (pc := 28) dX9_power_28 ?_
      refine sm_lstore_n (pc := 29) (n := 3) dX9_power_29 rfl ?_
      exact hj30
noncomputable def b_X9_power {d : Nat} (P : zP d) : zK d := (xpL 1 (xlst 3 (xild 0 (xi2l (xlst 5 (xild 1 (xist 7 (xloop (fun r9 => (lX9_power_9 P r9)) 100000))))))))
set_option maxRecDepth 100000 in
set_option maxHeartbeats 4000000 in
theorem s_X9_power {d : Nat} [zGh] (P : zP d) : zSim X_X9_power 1 P 0 (b_X9_power P) := by
  unfold b_X9_power
  refine sm_lconst (pc := 0) dX9_power_0 zc_l_1 ?_
  refine sm_lstore_n (pc := 1) (n := 3) dX9_power_1 rfl ?_
  refine sm_iload_n (pc := 2) (n := 0) dX9_power_2 rfl ?_
  refine sm_i2l (pc := 3) dX9_power_3 ?_
  refine sm_lstore (pc := 4) (n := 5) dX9_power_4 ?_
  refine sm_iload_n (pc := 6) (n := 1) dX9_power_6 rfl ?_
  refine sm_istore (pc := 7) (n := 7) dX9_power_7 ?_
  exact sm_loop (fun r9 hr9 => slX9_power_9 P r9 hr9) _
noncomputable def f_X9_power {d : Nat} : List zV → zH d → zP d → Bool := zfn 8 b_X9_power
theorem m_X9_power {d : Nat} : zMet (d := d) X_X9_power yX9_power 1 f_X9_power := zmet_mk (X := X_X9_power) (by decide) rfl rfl s_X9_power

abbrev X_X9_rankOf : zM := (RX9, cX9_rankOf, 9, (some .int), "rankOf")
noncomputable def bX9_rankOf_263 {d : Nat} (P : zP d) : zK d := (xild 2 (xiret P))
set_option maxRecDepth 100000 in
set_option maxHeartbeats 4000000 in
theorem sbX9_rankOf_263 {d : Nat} [zGh] (P : zP d) : zSim X_X9_rankOf 2 P 263 (bX9_rankOf_263 P) := by
  unfold bX9_rankOf_263
  refine sm_iload_n (pc := 263) (n := 2) dX9_rankOf_263 rfl ?_
  exact sm_ireturn (pc := 264) dX9_rankOf_264 rfl
noncomputable def bX9_rankOf_257 {d : Nat} (P : zP d) (r4 : zK d) : zK d := (xinc 3 1 r4)
set_option maxRecDepth 100000 in
set_option maxHeartbeats 4000000 in
theorem sbX9_rankOf_257 {d : Nat} [zGh] (P : zP d) (r4 : zK d) (hr4 : zSim X_X9_rankOf 2 P 4 r4) : zSim X_X9_rankOf 2 P 257 (bX9_rankOf_257 P r4) := by
  unfold bX9_rankOf_257
  refine sm_iinc (pc := 257) (n := 3) dX9_rankOf_257 zc_i_1 ?_
  refine sm_goto (pc := 260) (tgt := 4) dX9_rankOf_260 (by decide) ?_
  exact hr4
noncomputable def cX9_rankOf_226 {d : Nat} (P : zP d) (r184 : zK d) : zK d := (xpI 16 (xild 2 (xbin zmul (xild 8 (xbin zadd (xald1 0 (xbin zmul (xbin zadd (xald 0 (xgfI 25 1 (xbinN zrem (xast1 0 (fun v => v) (xinc 8 1 r184)))))))))))))
set_option maxRecDepth 100000 in
set_option maxHeartbeats 4000000 in
theorem scX9_rankOf_226 {d : Nat} [zGh] (P : zP d) (r184 : zK d) (hr184 : zSim X_X9_rankOf 2 P 184 r184) : zSim X_X9_rankOf 2 P 226 (cX9_rankOf_226 P r184) := by
  unfold cX9_rankOf_226
  refine sm_bipush (pc := 226) dX9_rankOf_226 zc_b_16 ?_
  refine sm_iload_n (pc := 228) (n := 2) dX9_rankOf_228 rfl ?_
  refine sm_imul (pc := 229) dX9_rankOf_229 ?_
  refine sm_iload (pc := 230) (n := 8) dX9_rankOf_230 ?_
  refine sm_iadd (pc := 232) dX9_rankOf_232 ?_
  refine sm_iaload (pc := 233) dX9_rankOf_233 ?_
  refine sm_imul (pc := 234) dX9_rankOf_234 ?_
  refine sm_iadd (pc := 235) dX9_rankOf_235 ?_
  refine sm_aload_n (pc := 236) (n := 0) dX9_rankOf_236 rfl ?_
  refine gf_X9_184 (pc := 237) rfl dX9_rankOf_237 ?_
  refine sm_irem (pc := 240) dX9_rankOf_240 ?_
  refine sm_iastore (pc := 241) dX9_rankOf_241 ?_
  refine sm_iinc (pc := 242) (n := 8) dX9_rankOf_242 zc_i_1 ?_
  refine sm_goto (pc := 245) (tgt := 184) dX9_rankOf_245 (by decide) ?_
  exact hr184
noncomputable def lX9_rankOf_184 {d : Nat} (P : zP d) (r153 : zK d) (r184 : zK d) : zK d := (xild 8 (xild 1 (xcmp tge (xinc 6 1 r153) (xald 0 (xgfR 25 34 (xpI 16 (xild 6 (xbin zmul (xild 8 (xbin zadd (xald 0 (xgfR 25 34 (xpI 16 (xild 6 (xbin zmul (xild 8 (xbin zadd (xald1 0 (xald 0 (xgfI 25 1 (xild 7 (xbin zsub (xald 0 (xgfR 25 34 (cX9_rankOf_226 P r184)))))))))))))))))))))))))
set_option maxRecDepth 100000 in
set_option maxHeartbeats 4000000 in
theorem slX9_rankOf_184 {d : Nat} [zGh] (P : zP d) (r153 : zK d) (r184 : zK d) (hr153 : zSim X_X9_rankOf 2 P 153 r153) (hr184 : zSim X_X9_rankOf 2 P 184 r184) : zSim X_X9_rankOf 2 P 184 (lX9_rankOf_184 P r153 r184) := by
  unfold lX9_rankOf_184
  refine sm_iload (pc := 184) (n := 8) dX9_rankOf_184 ?_
  refine sm_iload_n (pc := 186) (n := 1) dX9_rankOf_186 rfl ?_
  refine sm_icmp_ge (pc := 187) (tgt := 248) dX9_rankOf_187 (by decide) ?_ ?_
  · skip
    refine sm_iinc (pc := 248) (n := 6) dX9_rankOf_248 zc_i_1 ?_
    refine sm_goto (pc := 251) (tgt := 153) dX9_rankOf_251 (by decide) ?_
    exact hr153
  · skip
    refine sm_aload_n (pc := 190) (n := 0) dX9_rankOf_190 rfl ?_
    refine gf_X9_87 (pc := 191) rfl dX9_rankOf_191 ?_
    refine sm_bipush (pc := 194) dX9_rankOf_194 zc_b_16 ?_
    refine sm_iload (pc := 196) (n := 6) dX9_rankOf_196 ?_
    refine sm_imul (pc := 198) dX9_rankOf_198 ?_
    refine sm_iload (pc := 199) (n := 8) dX9_rankOf_199 ?_
    refine sm_iadd (pc := 201) dX9_rankOf_201 ?_
    refine sm_aload_n (pc := 202) (n := 0) dX9_rankOf_202 rfl ?_
    refine gf_X9_87 (pc := 203) rfl dX9_rankOf_203 ?_
    refine sm_bipush (pc := 206) dX9_rankOf_206 zc_b_16 ?_
    refine sm_iload (pc := 208) (n := 6) dX9_rankOf_208 ?_
    refine sm_imul (pc := 210) dX9_rankOf_210 ?_
    refine sm_iload (pc := 211) (n := 8) dX9_rankOf_211 ?_
    refine sm_iadd (pc := 213) dX9_rankOf_213 ?_
    refine sm_iaload (pc := 214) dX9_rankOf_214 ?_
    refine sm_aload_n (pc := 215) (n := 0) dX9_rankOf_215 rfl ?_
    refine gf_X9_184 (pc := 216) rfl dX9_rankOf_216 ?_
    refine sm_iload (pc := 219) (n := 7) dX9_rankOf_219 ?_
    refine sm_isub (pc := 221) dX9_rankOf_221 ?_
    refine sm_aload_n (pc := 222) (n := 0) dX9_rankOf_222 rfl ?_
    refine gf_X9_87 (pc := 223) rfl dX9_rankOf_223 ?_
    exact scX9_rankOf_226 P r184 hr184
noncomputable def lX9_rankOf_153 {d : Nat} (P : zP d) (j257 : zK d) (r153 : zK d) : zK d := (xild 6 (xild 1 (xcmp tge (xinc 2 1 j257) (xald 0 (xgfR 25 34 (xpI 16 (xild 6 (xbin zmul (xild 3 (xbin zadd (xald1 0 (xild 5 (xbin zmul (xald 0 (xgfI 25 1 (xbinN zrem (xist 7 (xild 3 (xist 8 (xloop (fun r184 => (lX9_rankOf_184 P r153 r184)) 100000))))))))))))))))))))
set_option maxRecDepth 100000 in
set_option maxHeartbeats 4000000 in
theorem slX9_rankOf_153 {d : Nat} [zGh] (P : zP d) (j257 : zK d) (r153 : zK d) (hj257 : zSim X_X9_rankOf 2 P 257 j257) (hr153 : zSim X_X9_rankOf 2 P 153 r153) : zSim X_X9_rankOf 2 P 153 (lX9_rankOf_153 P j257 r153) := by
  unfold lX9_rankOf_153
  refine sm_iload (pc := 153) (n := 6) dX9_rankOf_153 ?_
  refine sm_iload_n (pc := 155) (n := 1) dX9_rankOf_155 rfl ?_
  refine sm_icmp_ge (pc := 156) (tgt := 254) dX9_rankOf_156 (by decide) ?_ ?_
  · skip
    refine sm_iinc (pc := 254) (n := 2) dX9_rankOf_254 zc_i_1 ?_
    exact hj257
  · skip
    refine sm_aload_n (pc := 159) (n := 0) dX9_rankOf_159 rfl ?_
    refine gf_X9_87 (pc := 160) rfl dX9_rankOf_160 ?_
    refine sm_bipush (pc := 163) dX9_rankOf_163 zc_b_16 ?_
    refine sm_iload (pc := 165) (n := 6) dX9_rankOf_165 ?_
    refine sm_imul (pc := 167) dX9_rankOf_167 ?_
    refine sm_iload_n (pc := 168) (n := 3) dX9_rankOf_168 rfl ?_
    refine sm_iadd (pc := 169) dX9_rankOf_169 ?_
    refine sm_iaload (pc := 170) dX9_rankOf_170 ?_
    refine sm_iload (pc := 171) (n := 5) dX9_rankOf_171 ?_
    refine sm_imul (pc := 173) dX9_rankOf_173 ?_
    refine sm_aload_n (pc := 174) (n := 0) dX9_rankOf_174 rfl ?_
    refine gf_X9_184 (pc := 175) rfl dX9_rankOf_175 ?_
    refine sm_irem (pc := 178) dX9_rankOf_178 ?_
    refine sm_istore (pc := 179) (n := 7) dX9_rankOf_179 ?_
    refine sm_iload_n (pc := 181) (n := 3) dX9_rankOf_181 rfl ?_
    refine sm_istore (pc := 182) (n := 8) dX9_rankOf_182 ?_
    exact sm_loop (fun r184 hr184 => slX9_rankOf_184 P r153 r184 hr153 hr184) _
noncomputable def cX9_rankOf_97 {d : Nat} (P : zP d) (r56 : zK d) : zK d := (xild 5 (xbin zadd (xald1 0 (xast1 0 (fun v => v) (xald 0 (xgfR 25 34 (xpI 16 (xild 2 (xbin zmul (xild 5 (xbin zadd (xild 6 (xast1 0 (fun v => v) (xinc 5 1 r56))))))))))))))
set_option maxRecDepth 100000 in
set_option maxHeartbeats 4000000 in
theorem scX9_rankOf_97 {d : Nat} [zGh] (P : zP d) (r56 : zK d) (hr56 : zSim X_X9_rankOf 2 P 56 r56) : zSim X_X9_rankOf 2 P 97 (cX9_rankOf_97 P r56) := by
  unfold cX9_rankOf_97
  refine sm_iload (pc := 97) (n := 5) dX9_rankOf_97 ?_
  refine sm_iadd (pc := 99) dX9_rankOf_99 ?_
  refine sm_iaload (pc := 100) dX9_rankOf_100 ?_
  refine sm_iastore (pc := 101) dX9_rankOf_101 ?_
  refine sm_aload_n (pc := 102) (n := 0) dX9_rankOf_102 rfl ?_
  refine gf_X9_87 (pc := 103) rfl dX9_rankOf_103 ?_
  refine sm_bipush (pc := 106) dX9_rankOf_106 zc_b_16 ?_
  refine sm_iload_n (pc := 108) (n := 2) dX9_rankOf_108 rfl ?_
  refine sm_imul (pc := 109) dX9_rankOf_109 ?_
  refine sm_iload (pc := 110) (n := 5) dX9_rankOf_110 ?_
  refine sm_iadd (pc := 112) dX9_rankOf_112 ?_
  refine sm_iload (pc := 113) (n := 6) dX9_rankOf_113 ?_
  refine sm_iastore (pc := 115) dX9_rankOf_115 ?_
  refine sm_iinc (pc := 116) (n := 5) dX9_rankOf_116 zc_i_1 ?_
  refine sm_goto (pc := 119) (tgt := 56) dX9_rankOf_119 (by decide) ?_
  exact hr56
noncomputable def lX9_rankOf_56 {d : Nat} (P : zP d) (j257 : zK d) (r56 : zK d) : zK d := (xild 5 (xild 1 (xcmp tge (xald 0 (xgfR 25 34 (xpI 16 (xild 2 (xbin zmul (xild 3 (xbin zadd (xald1 0 (xald 0 (xgfI 25 1 (xpI 2 (xbin zsub (xald 0 (xgfI 25 1 (xcS 3 0 0 f_X9_power (xist 5 (xild 2 (xpI 1 (xbin zadd (xist 6 (xloop (fun r153 => (lX9_rankOf_153 P j257 r153)) 100000))))))))))))))))))))) (xald 0 (xgfR 25 34 (xpI 16 (xild 4 (xbin zmul (xild 5 (xbin zadd (xald1 0 (xist 6 (xald 0 (xgfR 25 34 (xpI 16 (xild 4 (xbin zmul (xild 5 (xbin zadd (xald 0 (xgfR 25 34 (xpI 16 (xild 2 (xbin zmul (cX9_rankOf_97 P r56)))))))))))))))))))))))))
set_option maxRecDepth 100000 in
set_option maxHeartbeats 4000000 in
theorem slX9_rankOf_56 {d : Nat} [zGh] (P : zP d) (j257 : zK d) (r56 : zK d) (hj257 : zSim X_X9_rankOf 2 P 257 j257) (hr56 : zSim X_X9_rankOf 2 P 56 r56) : zSim X_X9_rankOf 2 P 56 (lX9_rankOf_56 P j257 r56) := by
  unfold lX9_rankOf_56
  refine sm_iload (pc := 56) (n := 5) dX9_rankOf_56 ?_
  refine sm_iload_n (pc := 58) (n := 1) dX9_rankOf_58 rfl ?_
  refine sm_icmp_ge (pc := 59) (tgt := 122) dX9_rankOf_59 (by decide) ?_ ?_
  · skip
    refine sm_aload_n (pc := 122) (n := 0) dX9_rankOf_122 rfl ?_
    refine gf_X9_87 (pc := 123) rfl dX9_rankOf_123 ?_
    refine sm_bipush (pc := 126) dX9_rankOf_126 zc_b_16 ?_
    refine sm_iload_n (pc := 128) (n := 2) dX9_rankOf_128 rfl ?_
    refine sm_imul (pc := 129) dX9_rankOf_129 ?_
    refine sm_iload_n (pc := 130) (n := 3) dX9_rankOf_130 rfl ?_
    refine sm_iadd (pc := 131) dX9_rankOf_131 ?_
    refine sm_iaload (pc := 132) dX9_rankOf_132 ?_
    refine sm_aload_n (pc := 133) (n := 0) dX9_rankOf_133 rfl ?_
    refine gf_X9_184 (pc := 134) rfl dX9_rankOf_134 ?_
    refine sm_iconst (pc := 137) dX9_rankOf_137 zc_i_2 ?_
    refine sm_isub (pc := 138) dX9_rankOf_138 ?_
    refine sm_aload_n (pc := 139) (n := 0) dX9_rankOf_139 rfl ?_
    refine gf_X9_184 (pc := 140) rfl dX9_rankOf_140 ?_
    refine sm_cS (pc := 143) (n := 3) (mc := 0) (ms := 0) m_X9_power (cr_X9_238 (X := X_X9_rankOf) (fr := 2) (frc := 1) (pc := 143) (mc := 0) (ms := 0) rfl (by decide) dX9_rankOf_143) ?_
    refine sm_istore (pc := 146) (n := 5) dX9_rankOf_146 ?_
    refine sm_iload_n (pc := 148) (n := 2) dX9_rankOf_148 rfl ?_
    refine sm_iconst (pc := 149) dX9_rankOf_149 zc_i_1 ?_
    refine sm_iadd (pc := 150) dX9_rankOf_150 ?_
    refine sm_istore (pc := 151) (n := 6) dX9_rankOf_151 ?_
    exact sm_loop (fun r153 hr153 => slX9_rankOf_153 P j257 r153 hj257 hr153) _
  · skip
    refine sm_aload_n (pc := 62) (n := 0) dX9_rankOf_62 rfl ?_
    refine gf_X9_87 (pc := 63) rfl dX9_rankOf_63 ?_
    refine sm_bipush (pc := 66) dX9_rankOf_66 zc_b_16 ?_
    refine sm_iload (pc := 68) (n := 4) dX9_rankOf_68 ?_
    refine sm_imul (pc := 70) dX9_rankOf_70 ?_
    refine sm_iload (pc := 71) (n := 5) dX9_rankOf_71 ?_
    refine sm_iadd (pc := 73) dX9_rankOf_73 ?_
    refine sm_iaload (pc := 74) dX9_rankOf_74 ?_
    refine sm_istore (pc := 75) (n := 6) dX9_rankOf_75 ?_
    refine sm_aload_n (pc := 77) (n := 0) dX9_rankOf_77 rfl ?_
    refine gf_X9_87 (pc := 78) rfl dX9_rankOf_78 ?_
    refine sm_bipush (pc := 81) dX9_rankOf_81 zc_b_16 ?_
    refine sm_iload (pc := 83) (n := 4) dX9_rankOf_83 ?_
    refine sm_imul (pc := 85) dX9_rankOf_85 ?_
    refine sm_iload (pc := 86) (n := 5) dX9_rankOf_86 ?_
    refine sm_iadd (pc := 88) dX9_rankOf_88 ?_
    refine sm_aload_n (pc := 89) (n := 0) dX9_rankOf_89 rfl ?_
    refine gf_X9_87 (pc := 90) rfl dX9_rankOf_90 ?_
    refine sm_bipush (pc := 93) dX9_rankOf_93 zc_b_16 ?_
    refine sm_iload_n (pc := 95) (n := 2) dX9_rankOf_95 rfl ?_
    refine sm_imul (pc := 96) dX9_rankOf_96 ?_
    exact scX9_rankOf_97 P r56 hr56
noncomputable def bX9_rankOf_44 {d : Nat} (P : zP d) (r4 : zK d) : zK d := (xild 4 (xild 1 (xjoin (bX9_rankOf_257 P r4) (fun j257 => (xcmp Nat.beq j257 (xpI 0 (xist 5 (xloop (fun r56 => (lX9_rankOf_56 P j257 r56)) 100000))))))))
set_option maxRecDepth 100000 in
set_option maxHeartbeats 4000000 in
theorem sbX9_rankOf_44 {d : Nat} [zGh] (P : zP d) (r4 : zK d) (hr4 : zSim X_X9_rankOf 2 P 4 r4) : zSim X_X9_rankOf 2 P 44 (bX9_rankOf_44 P r4) := by
  unfold bX9_rankOf_44
  refine sm_iload (pc := 44) (n := 4) dX9_rankOf_44 ?_
  refine sm_iload_n (pc := 46) (n := 1) dX9_rankOf_46 rfl ?_
  refine sm_join (pc := 47) (pc' := 257) (sbX9_rankOf_257 P r4 hr4) (fun j257 hj257 => ?_)
  refine sm_icmp_ne (pc := 47) (tgt := 53) dX9_rankOf_47 (by decide) ?_ ?_
  · skip
    refine sm_iconst (pc := 53) dX9_rankOf_53 zc_i_0 ?_
    refine sm_istore (pc := 54) (n := 5) dX9_rankOf_54 ?_
    exact sm_loop (fun r56 hr56 => slX9_rankOf_56 P j257 r56 hj257 hr56) _
  · skip
    refine sm_goto (pc := 50) (tgt := 257) dX9_rankOf_50 (by decide) ?_
    exact hj257
noncomputable def lX9_rankOf_17 {d : Nat} (P : zP d) (r17 : zK d) (r4 : zK d) : zK d := (xild 4 (xild 1 (xjoin (bX9_rankOf_44 P r4) (fun j44 => (xcmp tge j44 (xald 0 (xgfR 25 34 (xpI 16 (xild 4 (xbin zmul (xild 3 (xbin zadd (xald1 0 (xif0 t0eq (xinc 4 1 r17) j44))))))))))))))
set_option maxRecDepth 100000 in
set_option maxHeartbeats 4000000 in
theorem slX9_rankOf_17 {d : Nat} [zGh] (P : zP d) (r17 : zK d) (r4 : zK d) (hr17 : zSim X_X9_rankOf 2 P 17 r17) (hr4 : zSim X_X9_rankOf 2 P 4 r4) : zSim X_X9_rankOf 2 P 17 (lX9_rankOf_17 P r17 r4) := by
  unfold lX9_rankOf_17
  refine sm_iload (pc := 17) (n := 4) dX9_rankOf_17 ?_
  refine sm_iload_n (pc := 19) (n := 1) dX9_rankOf_19 rfl ?_
  refine sm_join (pc := 20) (pc' := 44) (sbX9_rankOf_44 P r4 hr4) (fun j44 hj44 => ?_)
  refine sm_icmp_ge (pc := 20) (tgt := 44) dX9_rankOf_20 (by decide) ?_ ?_
  · skip
    exact hj44
  · skip
    refine sm_aload_n (pc := 23) (n := 0) dX9_rankOf_23 rfl ?_
    refine gf_X9_87 (pc := 24) rfl dX9_rankOf_24 ?_
    refine sm_bipush (pc := 27) dX9_rankOf_27 zc_b_16 ?_
    refine sm_iload (pc := 29) (n := 4) dX9_rankOf_29 ?_
    refine sm_imul (pc := 31) dX9_rankOf_31 ?_
    refine sm_iload_n (pc := 32) (n := 3) dX9_rankOf_32 rfl ?_
    refine sm_iadd (pc := 33) dX9_rankOf_33 ?_
    refine sm_iaload (pc := 34) dX9_rankOf_34 ?_
    refine sm_if_ne (pc := 35) (tgt := 44) dX9_rankOf_35 (by decide) ?_ ?_
    · skip
      exact hj44
    · skip
      refine sm_iinc (pc := 38) (n := 4) dX9_rankOf_38 zc_i_1 ?_
      refine sm_goto (pc := 41) (tgt := 17) dX9_rankOf_41 (by decide) ?_
      exact hr17
noncomputable def lX9_rankOf_4 {d : Nat} (P : zP d) (r4 : zK d) : zK d := (xild 3 (xild 1 (xjoin (bX9_rankOf_263 P) (fun j263 => (xcmp tge j263 (xild 2 (xild 1 (xcmp tge j263 (xild 2 (xist 4 (xloop (fun r17 => (lX9_rankOf_17 P r17 r4)) 100000)))))))))))
set_option maxRecDepth 100000 in
set_option maxHeartbeats 4000000 in
theorem slX9_rankOf_4 {d : Nat} [zGh] (P : zP d) (r4 : zK d) (hr4 : zSim X_X9_rankOf 2 P 4 r4) : zSim X_X9_rankOf 2 P 4 (lX9_rankOf_4 P r4) := by
  unfold lX9_rankOf_4
  refine sm_iload_n (pc := 4) (n := 3) dX9_rankOf_4 rfl ?_
  refine sm_iload_n (pc := 5) (n := 1) dX9_rankOf_5 rfl ?_
  refine sm_join (pc := 6) (pc' := 263) (sbX9_rankOf_263 P) (fun j263 hj263 => ?_)
  refine sm_icmp_ge (pc := 6) (tgt := 263) dX9_rankOf_6 (by decide) ?_ ?_
  · skip
    exact hj263
  · skip
    refine sm_iload_n (pc := 9) (n := 2) dX9_rankOf_9 rfl ?_
    refine sm_iload_n (pc := 10) (n := 1) dX9_rankOf_10 rfl ?_
    refine sm_icmp_ge (pc := 11) (tgt := 263) dX9_rankOf_11 (by decide) ?_ ?_
    · skip
      exact hj263
    · skip
      refine sm_iload_n (pc := 14) (n := 2) dX9_rankOf_14 rfl ?_
      refine sm_istore (pc := 15) (n := 4) dX9_rankOf_15 ?_
      exact sm_loop (fun r17 hr17 => slX9_rankOf_17 P r17 r4 hr17 hr4) _
noncomputable def b_X9_rankOf {d : Nat} (P : zP d) : zK d := (xpI 0 (xist 2 (xpI 0 (xist 3 (xloop (fun r4 => (lX9_rankOf_4 P r4)) 100000)))))
set_option maxRecDepth 100000 in
set_option maxHeartbeats 4000000 in
theorem s_X9_rankOf {d : Nat} [zGh] (P : zP d) : zSim X_X9_rankOf 2 P 0 (b_X9_rankOf P) := by
  unfold b_X9_rankOf
  refine sm_iconst (pc := 0) dX9_rankOf_0 zc_i_0 ?_
  refine sm_istore_n (pc := 1) (n := 2) dX9_rankOf_1 rfl ?_
  refine sm_iconst (pc := 2) dX9_rankOf_2 zc_i_0 ?_
  refine sm_istore_n (pc := 3) (n := 3) dX9_rankOf_3 rfl ?_
  exact sm_loop (fun r4 hr4 => slX9_rankOf_4 P r4 hr4) _
noncomputable def f_X9_rankOf {d : Nat} : List zV → zH d → zP d → Bool := zfn 9 b_X9_rankOf
theorem m_X9_rankOf {d : Nat} : zMet (d := d) X_X9_rankOf yX9_rankOf 2 f_X9_rankOf := zmet_mk (X := X_X9_rankOf) (by decide) rfl rfl s_X9_rankOf

abbrev X_X9_forms : zM := (RX9, cX9_forms, 5, none, "forms")
noncomputable def cX9_forms_59 {d : Nat} (P : zP d) (r19 : zK d) : zK d := (xild 3 (xbin zadd (xild 4 (xast1 0 (fun v => v) (xald 0 (xgfR 25 34 (xpI 16 (xild 2 (xbin zmul (xild 3 (xbin zadd (xild 4 (xald 0 (xgfI 25 1 (xbinN zrem (xald 0 (xgfI 25 1 (xbin zadd (xald 0 (xgfI 25 1 (xbinN zrem (xast1 0 (fun v => v) (xinc 3 1 r19)))))))))))))))))))))))
set_option maxRecDepth 100000 in
set_option maxHeartbeats 4000000 in
theorem scX9_forms_59 {d : Nat} [zGh] (P : zP d) (r19 : zK d) (hr19 : zSim X_X9_forms 19 P 19 r19) : zSim X_X9_forms 19 P 59 (cX9_forms_59 P r19) := by
  unfold cX9_forms_59
  refine sm_iload_n (pc := 59) (n := 3) dX9_forms_59 rfl ?_
  refine sm_iadd (pc := 60) dX9_forms_60 ?_
  refine sm_iload (pc := 61) (n := 4) dX9_forms_61 ?_
  refine sm_iastore (pc := 63) dX9_forms_63 ?_
  refine sm_aload_n (pc := 64) (n := 0) dX9_forms_64 rfl ?_
  refine gf_X9_87 (pc := 65) rfl dX9_forms_65 ?_
  refine sm_bipush (pc := 68) dX9_forms_68 zc_b_16 ?_
  refine sm_iload_n (pc := 70) (n := 2) dX9_forms_70 rfl ?_
  refine sm_imul (pc := 71) dX9_forms_71 ?_
  refine sm_iload_n (pc := 72) (n := 3) dX9_forms_72 rfl ?_
  refine sm_iadd (pc := 73) dX9_forms_73 ?_
  refine sm_iload (pc := 74) (n := 4) dX9_forms_74 ?_
  refine sm_aload_n (pc := 76) (n := 0) dX9_forms_76 rfl ?_
  refine gf_X9_184 (pc := 77) rfl dX9_forms_77 ?_
  refine sm_irem (pc := 80) dX9_forms_80 ?_
  refine sm_aload_n (pc := 81) (n := 0) dX9_forms_81 rfl ?_
  refine gf_X9_184 (pc := 82) rfl dX9_forms_82 ?_
  refine sm_iadd (pc := 85) dX9_forms_85 ?_
  refine sm_aload_n (pc := 86) (n := 0) dX9_forms_86 rfl ?_
  refine gf_X9_184 (pc := 87) rfl dX9_forms_87 ?_
  refine sm_irem (pc := 90) dX9_forms_90 ?_
  refine sm_iastore (pc := 91) dX9_forms_91 ?_
  refine sm_iinc (pc := 92) (n := 3) dX9_forms_92 zc_i_1 ?_
  refine sm_goto (pc := 95) (tgt := 19) dX9_forms_95 (by decide) ?_
  exact hr19
noncomputable def lX9_forms_19 {d : Nat} (P : zP d) (r19 : zK d) (r7 : zK d) : zK d := (xild 3 (xald 0 (xgfR 25 21 (xild 1 (xald1 0 (xcmp tge (xinc 2 1 r7) (xald 0 (xald 0 (xgfR 25 29 (xild 2 (xald 0 (xgfR 25 29 (xild 3 (xcV 25 5 0 0 f_X9_form (xist 4 (xald 0 (xgfR 25 35 (xpI 256 (xild 1 (xbin zmul (xpI 16 (xild 2 (xbin zmul (xbin zadd (cX9_forms_59 P r19)))))))))))))))))))))))))
set_option maxRecDepth 100000 in
set_option maxHeartbeats 4000000 in
theorem slX9_forms_19 {d : Nat} [zGh] (P : zP d) (r19 : zK d) (r7 : zK d) (hr19 : zSim X_X9_forms 19 P 19 r19) (hr7 : zSim X_X9_forms 19 P 7 r7) : zSim X_X9_forms 19 P 19 (lX9_forms_19 P r19 r7) := by
  unfold lX9_forms_19
  refine sm_iload_n (pc := 19) (n := 3) dX9_forms_19 rfl ?_
  refine sm_aload_n (pc := 20) (n := 0) dX9_forms_20 rfl ?_
  refine gf_X9_56 (pc := 21) rfl dX9_forms_21 ?_
  refine sm_iload_n (pc := 24) (n := 1) dX9_forms_24 rfl ?_
  refine sm_iaload (pc := 25) dX9_forms_25 ?_
  refine sm_icmp_ge (pc := 26) (tgt := 98) dX9_forms_26 (by decide) ?_ ?_
  · skip
    refine sm_iinc (pc := 98) (n := 2) dX9_forms_98 zc_i_1 ?_
    refine sm_goto (pc := 101) (tgt := 7) dX9_forms_101 (by decide) ?_
    exact hr7
  · skip
    refine sm_aload_n (pc := 29) (n := 0) dX9_forms_29 rfl ?_
    refine sm_aload_n (pc := 30) (n := 0) dX9_forms_30 rfl ?_
    refine gf_X9_72 (pc := 31) rfl dX9_forms_31 ?_
    refine sm_iload_n (pc := 34) (n := 2) dX9_forms_34 rfl ?_
    refine sm_aload_n (pc := 35) (n := 0) dX9_forms_35 rfl ?_
    refine gf_X9_72 (pc := 36) rfl dX9_forms_36 ?_
    refine sm_iload_n (pc := 39) (n := 3) dX9_forms_39 rfl ?_
    refine sm_cV (pc := 40) (ci := 9) (n := 5) (mc := 0) (ms := 0) rfl m_X9_form (cr_X9_245 (X := X_X9_forms) (fr := 19) (frc := 1) (pc := 40) (mc := 0) (ms := 0) rfl (by decide) dX9_forms_40) ?_
    refine sm_istore (pc := 43) (n := 4) dX9_forms_43 ?_
    refine sm_aload_n (pc := 45) (n := 0) dX9_forms_45 rfl ?_
    refine gf_X9_90 (pc := 46) rfl dX9_forms_46 ?_
    refine sm_sipush (pc := 49) dX9_forms_49 zc_s_256 ?_
    refine sm_iload_n (pc := 52) (n := 1) dX9_forms_52 rfl ?_
    refine sm_imul (pc := 53) dX9_forms_53 ?_
    refine sm_bipush (pc := 54) dX9_forms_54 zc_b_16 ?_
    refine sm_iload_n (pc := 56) (n := 2) dX9_forms_56 rfl ?_
    refine sm_imul (pc := 57) dX9_forms_57 ?_
    refine sm_iadd (pc := 58) dX9_forms_58 ?_
    exact scX9_forms_59 P r19 hr19
noncomputable def lX9_forms_7 {d : Nat} (P : zP d) (r7 : zK d) : zK d := (xild 2 (xald 0 (xgfR 25 21 (xild 1 (xald1 0 (xcmp tge (xald 0 (xgfR 25 36 (xild 1 (xald 0 (xald 0 (xgfR 25 21 (xild 1 (xald1 0 (xcV 25 2 0 0 f_X9_rankOf (xast1 0 (fun v => v) (xvret P))))))))))) (xpI 0 (xist 3 (xloop (fun r19 => (lX9_forms_19 P r19 r7)) 100000)))))))))
set_option maxRecDepth 100000 in
set_option maxHeartbeats 4000000 in
theorem slX9_forms_7 {d : Nat} [zGh] (P : zP d) (r7 : zK d) (hr7 : zSim X_X9_forms 19 P 7 r7) : zSim X_X9_forms 19 P 7 (lX9_forms_7 P r7) := by
  unfold lX9_forms_7
  refine sm_iload_n (pc := 7) (n := 2) dX9_forms_7 rfl ?_
  refine sm_aload_n (pc := 8) (n := 0) dX9_forms_8 rfl ?_
  refine gf_X9_56 (pc := 9) rfl dX9_forms_9 ?_
  refine sm_iload_n (pc := 12) (n := 1) dX9_forms_12 rfl ?_
  refine sm_iaload (pc := 13) dX9_forms_13 ?_
  refine sm_icmp_ge (pc := 14) (tgt := 104) dX9_forms_14 (by decide) ?_ ?_
  · skip
    refine sm_aload_n (pc := 104) (n := 0) dX9_forms_104 rfl ?_
    refine gf_X9_93 (pc := 105) rfl dX9_forms_105 ?_
    refine sm_iload_n (pc := 108) (n := 1) dX9_forms_108 rfl ?_
    refine sm_aload_n (pc := 109) (n := 0) dX9_forms_109 rfl ?_
    refine sm_aload_n (pc := 110) (n := 0) dX9_forms_110 rfl ?_
    refine gf_X9_56 (pc := 111) rfl dX9_forms_111 ?_
    refine sm_iload_n (pc := 114) (n := 1) dX9_forms_114 rfl ?_
    refine sm_iaload (pc := 115) dX9_forms_115 ?_
    refine sm_cV (pc := 116) (ci := 9) (n := 2) (mc := 0) (ms := 0) rfl m_X9_rankOf (cr_X9_249 (X := X_X9_forms) (fr := 19) (frc := 2) (pc := 116) (mc := 0) (ms := 0) rfl (by decide) dX9_forms_116) ?_
    refine sm_iastore (pc := 119) dX9_forms_119 ?_
    exact sm_vreturn (pc := 120) dX9_forms_120 rfl
  · skip
    refine sm_iconst (pc := 17) dX9_forms_17 zc_i_0 ?_
    refine sm_istore_n (pc := 18) (n := 3) dX9_forms_18 rfl ?_
    exact sm_loop (fun r19 hr19 => slX9_forms_19 P r19 r7 hr19 hr7) _
noncomputable def b_X9_forms {d : Nat} (P : zP d) : zK d := (xald 0 (xild 1 (xcV 25 2 0 0 f_X9_begins (xpI 0 (xist 2 (xloop (fun r7 => (lX9_forms_7 P r7)) 100000))))))
set_option maxRecDepth 100000 in
set_option maxHeartbeats 4000000 in
theorem s_X9_forms {d : Nat} [zGh] (P : zP d) : zSim X_X9_forms 19 P 0 (b_X9_forms P) := by
  unfold b_X9_forms
  refine sm_aload_n (pc := 0) (n := 0) dX9_forms_0 rfl ?_
  refine sm_iload_n (pc := 1) (n := 1) dX9_forms_1 rfl ?_
  refine sm_cV (pc := 2) (ci := 9) (n := 2) (mc := 0) (ms := 0) rfl m_X9_begins (cr_X9_241 (X := X_X9_forms) (fr := 19) (frc := 18) (pc := 2) (mc := 0) (ms := 0) rfl (by decide) dX9_forms_2) ?_
  refine sm_iconst (pc := 5) dX9_forms_5 zc_i_0 ?_
  refine sm_istore_n (pc := 6) (n := 2) dX9_forms_6 rfl ?_
  exact sm_loop (fun r7 hr7 => slX9_forms_7 P r7 hr7) _
noncomputable def f_X9_forms {d : Nat} : List zV → zH d → zP d → Bool := zfn 5 b_X9_forms
theorem m_X9_forms {d : Nat} : zMet (d := d) X_X9_forms yX9_forms 19 f_X9_forms := zmet_mk (X := X_X9_forms) (by decide) rfl rfl s_X9_forms

abbrev X_X9_moves : zM := (RX9, cX9_moves, 7, none, "moves")
noncomputable def lX9_moves_28 {d : Nat} (P : zP d) (r28 : zK d) (r5 : zK d) : zK d := (xild 6 (xild 5 (xcmp tge (xild 3 (xild 5 (xbin zadd (xist 3 (xinc 4 1 r5))))) (xald 0 (xgfR 25 33 (xild 3 (xild 6 (xbin zadd (xild 3 (xild 6 (xild 2 (xbin zadd (xild 5 (xbinN zrem (xbin zadd (xast1 0 (fun v => v) (xinc 6 1 r28)))))))))))))))))
set_option maxRecDepth 100000 in
set_option maxHeartbeats 4000000 in
theorem slX9_moves_28 {d : Nat} [zGh] (P : zP d) (r28 : zK d) (r5 : zK d) (hr28 : zSim X_X9_moves 2 P 28 r28) (hr5 : zSim X_X9_moves 2 P 5 r5) : zSim X_X9_moves 2 P 28 (lX9_moves_28 P r28 r5) := by
  unfold lX9_moves_28
  refine sm_iload (pc := 28) (n := 6) dX9_moves_28 ?_
  refine sm_iload (pc := 30) (n := 5) dX9_moves_30 ?_
  refine sm_icmp_ge (pc := 32) (tgt := 59) dX9_moves_32 (by decide) ?_ ?_
  · skip
    refine sm_iload_n (pc := 59) (n := 3) dX9_moves_59 rfl ?_
    refine sm_iload (pc := 60) (n := 5) dX9_moves_60 ?_
    refine sm_iadd (pc := 62) dX9_moves_62 ?_
    refine sm_istore_n (pc := 63) (n := 3) dX9_moves_63 rfl ?_
    refine sm_iinc (pc := 64) (n := 4) dX9_moves_64 zc_i_1 ?_
    refine sm_goto (pc := 67) (tgt := 5) dX9_moves_67 (by decide) ?_
    exact hr5
  · skip
    refine sm_aload_n (pc := 35) (n := 0) dX9_moves_35 rfl ?_
    refine gf_X9_84 (pc := 36) rfl dX9_moves_36 ?_
    refine sm_iload_n (pc := 39) (n := 3) dX9_moves_39 rfl ?_
    refine sm_iload (pc := 40) (n := 6) dX9_moves_40 ?_
    refine sm_iadd (pc := 42) dX9_moves_42 ?_
    refine sm_iload_n (pc := 43) (n := 3) dX9_moves_43 rfl ?_
    refine sm_iload (pc := 44) (n := 6) dX9_moves_44 ?_
    refine sm_iload_n (pc := 46) (n := 2) dX9_moves_46 rfl ?_
    refine sm_iadd (pc := 47) dX9_moves_47 ?_
    refine sm_iload (pc := 48) (n := 5) dX9_moves_48 ?_
    refine sm_irem (pc := 50) dX9_moves_50 ?_
    refine sm_iadd (pc := 51) dX9_moves_51 ?_
    refine sm_iastore (pc := 52) dX9_moves_52 ?_
    refine sm_iinc (pc := 53) (n := 6) dX9_moves_53 zc_i_1 ?_
    refine sm_goto (pc := 56) (tgt := 28) dX9_moves_56 (by decide) ?_
    exact hr28
noncomputable def lX9_moves_5 {d : Nat} (P : zP d) (r5 : zK d) : zK d := (xild 4 (xald 0 (xgfR 25 4 (xild 1 (xald1 0 (xcmp tge (xvret P) (xald 0 (xild 1 (xild 4 (xcV 25 3 0 0 f_X9_partOf (xist 5 (xpI 0 (xist 6 (xloop (fun r28 => (lX9_moves_28 P r28 r5)) 100000))))))))))))))
set_option maxRecDepth 100000 in
set_option maxHeartbeats 4000000 in
theorem slX9_moves_5 {d : Nat} [zGh] (P : zP d) (r5 : zK d) (hr5 : zSim X_X9_moves 2 P 5 r5) : zSim X_X9_moves 2 P 5 (lX9_moves_5 P r5) := by
  unfold lX9_moves_5
  refine sm_iload (pc := 5) (n := 4) dX9_moves_5 ?_
  refine sm_aload_n (pc := 7) (n := 0) dX9_moves_7 rfl ?_
  refine gf_X9_13 (pc := 8) rfl dX9_moves_8 ?_
  refine sm_iload_n (pc := 11) (n := 1) dX9_moves_11 rfl ?_
  refine sm_iaload (pc := 12) dX9_moves_12 ?_
  refine sm_icmp_ge (pc := 13) (tgt := 70) dX9_moves_13 (by decide) ?_ ?_
  · skip
    exact sm_vreturn (pc := 70) dX9_moves_70 rfl
  · skip
    refine sm_aload_n (pc := 16) (n := 0) dX9_moves_16 rfl ?_
    refine sm_iload_n (pc := 17) (n := 1) dX9_moves_17 rfl ?_
    refine sm_iload (pc := 18) (n := 4) dX9_moves_18 ?_
    refine sm_cV (pc := 20) (ci := 9) (n := 3) (mc := 0) (ms := 0) rfl m_X9_partOf (cr_X9_175 (X := X_X9_moves) (fr := 2) (frc := 1) (pc := 20) (mc := 0) (ms := 0) rfl (by decide) dX9_moves_20) ?_
    refine sm_istore (pc := 23) (n := 5) dX9_moves_23 ?_
    refine sm_iconst (pc := 25) dX9_moves_25 zc_i_0 ?_
    refine sm_istore (pc := 26) (n := 6) dX9_moves_26 ?_
    exact sm_loop (fun r28 hr28 => slX9_moves_28 P r28 r5 hr28 hr5) _
noncomputable def b_X9_moves {d : Nat} (P : zP d) : zK d := (xpI 1 (xist 3 (xpI 0 (xist 4 (xloop (fun r5 => (lX9_moves_5 P r5)) 100000)))))
set_option maxRecDepth 100000 in
set_option maxHeartbeats 4000000 in
theorem s_X9_moves {d : Nat} [zGh] (P : zP d) : zSim X_X9_moves 2 P 0 (b_X9_moves P) := by
  unfold b_X9_moves
  refine sm_iconst (pc := 0) dX9_moves_0 zc_i_1 ?_
  refine sm_istore_n (pc := 1) (n := 3) dX9_moves_1 rfl ?_
  refine sm_iconst (pc := 2) dX9_moves_2 zc_i_0 ?_
  refine sm_istore (pc := 3) (n := 4) dX9_moves_3 ?_
  exact sm_loop (fun r5 hr5 => slX9_moves_5 P r5 hr5) _
noncomputable def f_X9_moves {d : Nat} : List zV → zH d → zP d → Bool := zfn 7 b_X9_moves
theorem m_X9_moves {d : Nat} : zMet (d := d) X_X9_moves yX9_moves 2 f_X9_moves := zmet_mk (X := X_X9_moves) (by decide) rfl rfl s_X9_moves

abbrev X_X9_fixed : zM := (RX9, cX9_fixed, 6, (some .int), "fixed")
noncomputable def cX9_fixed_114 {d : Nat} (P : zP d) (r32 : zK d) : zK d := (xinc 4 1 r32)
set_option maxRecDepth 100000 in
set_option maxHeartbeats 4000000 in
theorem scX9_fixed_114 {d : Nat} [zGh] (P : zP d) (r32 : zK d) (hr32 : zSim X_X9_fixed 18 P 32 r32) : zSim X_X9_fixed 18 P 114 (cX9_fixed_114 P r32) := by
  unfold cX9_fixed_114
  refine sm_iinc (pc := 114) (n := 4) dX9_fixed_114 zc_i_1 ?_
  refine sm_goto (pc := 117) (tgt := 32) dX9_fixed_117 (by decide) ?_
  exact hr32
noncomputable def cX9_fixed_77 {d : Nat} (P : zP d) (r32 : zK d) : zK d := (xbin zadd (xild 4 (xbin zadd (xald1 0 (xbin zsub (xist 5 (xald 0 (xgfR 25 34 (xpI 16 (xild 3 (xbin zmul (xild 4 (xbin zadd (xild 5 (xald 0 (xgfI 25 1 (xbinN zrem (xald 0 (xgfI 25 1 (xbin zadd (xald 0 (xgfI 25 1 (xbinN zrem (xast1 0 (fun v => v) (cX9_fixed_114 P r32)))))))))))))))))))))))))
set_option maxRecDepth 100000 in
set_option maxHeartbeats 4000000 in
theorem scX9_fixed_77 {d : Nat} [zGh] (P : zP d) (r32 : zK d) (hr32 : zSim X_X9_fixed 18 P 32 r32) : zSim X_X9_fixed 18 P 77 (cX9_fixed_77 P r32) := by
  unfold cX9_fixed_77
  refine sm_iadd (pc := 77) dX9_fixed_77 ?_
  refine sm_iload (pc := 78) (n := 4) dX9_fixed_78 ?_
  refine sm_iadd (pc := 80) dX9_fixed_80 ?_
  refine sm_iaload (pc := 81) dX9_fixed_81 ?_
  refine sm_isub (pc := 82) dX9_fixed_82 ?_
  refine sm_istore (pc := 83) (n := 5) dX9_fixed_83 ?_
  refine sm_aload_n (pc := 85) (n := 0) dX9_fixed_85 rfl ?_
  refine gf_X9_87 (pc := 86) rfl dX9_fixed_86 ?_
  refine sm_bipush (pc := 89) dX9_fixed_89 zc_b_16 ?_
  refine sm_iload_n (pc := 91) (n := 3) dX9_fixed_91 rfl ?_
  refine sm_imul (pc := 92) dX9_fixed_92 ?_
  refine sm_iload (pc := 93) (n := 4) dX9_fixed_93 ?_
  refine sm_iadd (pc := 95) dX9_fixed_95 ?_
  refine sm_iload (pc := 96) (n := 5) dX9_fixed_96 ?_
  refine sm_aload_n (pc := 98) (n := 0) dX9_fixed_98 rfl ?_
  refine gf_X9_184 (pc := 99) rfl dX9_fixed_99 ?_
  refine sm_irem (pc := 102) dX9_fixed_102 ?_
  refine sm_aload_n (pc := 103) (n := 0) dX9_fixed_103 rfl ?_
  refine gf_X9_184 (pc := 104) rfl dX9_fixed_104 ?_
  refine sm_iadd (pc := 107) dX9_fixed_107 ?_
  refine sm_aload_n (pc := 108) (n := 0) dX9_fixed_108 rfl ?_
  refine gf_X9_184 (pc := 109) rfl dX9_fixed_109 ?_
  refine sm_irem (pc := 112) dX9_fixed_112 ?_
  refine sm_iastore (pc := 113) dX9_fixed_113 ?_
  exact scX9_fixed_114 P r32 hr32
noncomputable def lX9_fixed_32 {d : Nat} (P : zP d) (r16 : zK d) (r32 : zK d) : zK d := (xild 4 (xald 0 (xgfR 25 21 (xald 0 (xgfI 25 25 (xald1 0 (xcmp tge (xinc 3 1 r16) (xald 0 (xald 0 (xgfR 25 29 (xild 3 (xald 0 (xgfR 25 30 (xild 4 (xcV 25 5 0 0 f_X9_form (xald 0 (xgfR 25 35 (xpI 256 (xald 0 (xgfI 25 25 (xbin zmul (xpI 16 (xild 3 (xbin zmul (cX9_fixed_77 P r32)))))))))))))))))))))))))
set_option maxRecDepth 100000 in
set_option maxHeartbeats 4000000 in
theorem slX9_fixed_32 {d : Nat} [zGh] (P : zP d) (r16 : zK d) (r32 : zK d) (hr16 : zSim X_X9_fixed 18 P 16 r16) (hr32 : zSim X_X9_fixed 18 P 32 r32) : zSim X_X9_fixed 18 P 32 (lX9_fixed_32 P r16 r32) := by
  unfold lX9_fixed_32
  refine sm_iload (pc := 32) (n := 4) dX9_fixed_32 ?_
  refine sm_aload_n (pc := 34) (n := 0) dX9_fixed_34 rfl ?_
  refine gf_X9_56 (pc := 35) rfl dX9_fixed_35 ?_
  refine sm_aload_n (pc := 38) (n := 0) dX9_fixed_38 rfl ?_
  refine gf_X9_205 (pc := 39) rfl dX9_fixed_39 ?_
  refine sm_iaload (pc := 42) dX9_fixed_42 ?_
  refine sm_icmp_ge (pc := 43) (tgt := 120) dX9_fixed_43 (by decide) ?_ ?_
  · skip
    refine sm_iinc (pc := 120) (n := 3) dX9_fixed_120 zc_i_1 ?_
    refine sm_goto (pc := 123) (tgt := 16) dX9_fixed_123 (by decide) ?_
    exact hr16
  · skip
    refine sm_aload_n (pc := 46) (n := 0) dX9_fixed_46 rfl ?_
    refine sm_aload_n (pc := 47) (n := 0) dX9_fixed_47 rfl ?_
    refine gf_X9_72 (pc := 48) rfl dX9_fixed_48 ?_
    refine sm_iload_n (pc := 51) (n := 3) dX9_fixed_51 rfl ?_
    refine sm_aload_n (pc := 52) (n := 0) dX9_fixed_52 rfl ?_
    refine gf_X9_75 (pc := 53) rfl dX9_fixed_53 ?_
    refine sm_iload (pc := 56) (n := 4) dX9_fixed_56 ?_
    refine sm_cV (pc := 58) (ci := 9) (n := 5) (mc := 0) (ms := 0) rfl m_X9_form (cr_X9_245 (X := X_X9_fixed) (fr := 18) (frc := 1) (pc := 58) (mc := 0) (ms := 0) rfl (by decide) dX9_fixed_58) ?_
    refine sm_aload_n (pc := 61) (n := 0) dX9_fixed_61 rfl ?_
    refine gf_X9_90 (pc := 62) rfl dX9_fixed_62 ?_
    refine sm_sipush (pc := 65) dX9_fixed_65 zc_s_256 ?_
    refine sm_aload_n (pc := 68) (n := 0) dX9_fixed_68 rfl ?_
    refine gf_X9_205 (pc := 69) rfl dX9_fixed_69 ?_
    refine sm_imul (pc := 72) dX9_fixed_72 ?_
    refine sm_bipush (pc := 73) dX9_fixed_73 zc_b_16 ?_
    refine sm_iload_n (pc := 75) (n := 3) dX9_fixed_75 rfl ?_
    refine sm_imul (pc := 76) dX9_fixed_76 ?_
    exact scX9_fixed_77 P r32 hr32
noncomputable def lX9_fixed_16 {d : Nat} (P : zP d) (r16 : zK d) : zK d := (xild 3 (xald 0 (xgfR 25 21 (xald 0 (xgfI 25 25 (xald1 0 (xcmp tge (xald 0 (xgfR 25 36 (xald 0 (xgfI 25 25 (xald1 0 (xald 0 (xald 0 (xgfR 25 21 (xald 0 (xgfI 25 25 (xald1 0 (xcV 25 2 0 0 f_X9_rankOf (xbin zsub (xiret P)))))))))))))) (xpI 0 (xist 4 (xloop (fun r32 => (lX9_fixed_32 P r16 r32)) 100000))))))))))
set_option maxRecDepth 100000 in
set_option maxHeartbeats 4000000 in
theorem slX9_fixed_16 {d : Nat} [zGh] (P : zP d) (r16 : zK d) (hr16 : zSim X_X9_fixed 18 P 16 r16) : zSim X_X9_fixed 18 P 16 (lX9_fixed_16 P r16) := by
  unfold lX9_fixed_16
  refine sm_iload_n (pc := 16) (n := 3) dX9_fixed_16 rfl ?_
  refine sm_aload_n (pc := 17) (n := 0) dX9_fixed_17 rfl ?_
  refine gf_X9_56 (pc := 18) rfl dX9_fixed_18 ?_
  refine sm_aload_n (pc := 21) (n := 0) dX9_fixed_21 rfl ?_
  refine gf_X9_205 (pc := 22) rfl dX9_fixed_22 ?_
  refine sm_iaload (pc := 25) dX9_fixed_25 ?_
  refine sm_icmp_ge (pc := 26) (tgt := 126) dX9_fixed_26 (by decide) ?_ ?_
  · skip
    refine sm_aload_n (pc := 126) (n := 0) dX9_fixed_126 rfl ?_
    refine gf_X9_93 (pc := 127) rfl dX9_fixed_127 ?_
    refine sm_aload_n (pc := 130) (n := 0) dX9_fixed_130 rfl ?_
    refine gf_X9_205 (pc := 131) rfl dX9_fixed_131 ?_
    refine sm_iaload (pc := 134) dX9_fixed_134 ?_
    refine sm_aload_n (pc := 135) (n := 0) dX9_fixed_135 rfl ?_
    refine sm_aload_n (pc := 136) (n := 0) dX9_fixed_136 rfl ?_
    refine gf_X9_56 (pc := 137) rfl dX9_fixed_137 ?_
    refine sm_aload_n (pc := 140) (n := 0) dX9_fixed_140 rfl ?_
    refine gf_X9_205 (pc := 141) rfl dX9_fixed_141 ?_
    refine sm_iaload (pc := 144) dX9_fixed_144 ?_
    refine sm_cV (pc := 145) (ci := 9) (n := 2) (mc := 0) (ms := 0) rfl m_X9_rankOf (cr_X9_249 (X := X_X9_fixed) (fr := 18) (frc := 2) (pc := 145) (mc := 0) (ms := 0) rfl (by decide) dX9_fixed_145) ?_
    refine sm_isub (pc := 148) dX9_fixed_148 ?_
    exact sm_ireturn (pc := 149) dX9_fixed_149 rfl
  · skip
    refine sm_iconst (pc := 29) dX9_fixed_29 zc_i_0 ?_
    refine sm_istore (pc := 30) (n := 4) dX9_fixed_30 ?_
    exact sm_loop (fun r32 hr32 => slX9_fixed_32 P r16 r32 hr16 hr32) _
noncomputable def b_X9_fixed {d : Nat} (P : zP d) : zK d := (xald 0 (xild 1 (xild 2 (xcV 25 3 0 0 f_X9_moves (xald 0 (xald 0 (xgfR 25 30 (xcV 25 2 0 0 g_X9_sumsOf (xpI 0 (xist 3 (xloop (fun r16 => (lX9_fixed_16 P r16)) 100000)))))))))))
set_option maxRecDepth 100000 in
set_option maxHeartbeats 4000000 in
theorem s_X9_fixed {d : Nat} [zGh] (P : zP d) : zSim X_X9_fixed 18 P 0 (b_X9_fixed P) := by
  unfold b_X9_fixed
  refine sm_aload_n (pc := 0) (n := 0) dX9_fixed_0 rfl ?_
  refine sm_iload_n (pc := 1) (n := 1) dX9_fixed_1 rfl ?_
  refine sm_iload_n (pc := 2) (n := 2) dX9_fixed_2 rfl ?_
  refine sm_cV (pc := 3) (ci := 9) (n := 3) (mc := 0) (ms := 0) rfl m_X9_moves (cr_X9_252 (X := X_X9_fixed) (fr := 18) (frc := 2) (pc := 3) (mc := 0) (ms := 0) rfl (by decide) dX9_fixed_3) ?_
  refine sm_aload_n (pc := 6) (n := 0) dX9_fixed_6 rfl ?_
  refine sm_aload_n (pc := 7) (n := 0) dX9_fixed_7 rfl ?_
  refine gf_X9_75 (pc := 8) rfl dX9_fixed_8 ?_
  refine sm_cV (pc := 11) (ci := 9) (n := 2) (mc := 0) (ms := 0) rfl mg_X9_sumsOf (cr_X9_234 (X := X_X9_fixed) (fr := 18) (frc := 17) (pc := 11) (mc := 0) (ms := 0) rfl (by decide) dX9_fixed_11) ?_
  refine sm_iconst (pc := 14) dX9_fixed_14 zc_i_0 ?_
  refine sm_istore_n (pc := 15) (n := 3) dX9_fixed_15 rfl ?_
  exact sm_loop (fun r16 hr16 => slX9_fixed_16 P r16 hr16) _
noncomputable def f_X9_fixed {d : Nat} : List zV → zH d → zP d → Bool := zfn 6 b_X9_fixed
theorem m_X9_fixed {d : Nat} : zMet (d := d) X_X9_fixed yX9_fixed 18 f_X9_fixed := zmet_mk (X := X_X9_fixed) (by decide) rfl rfl s_X9_fixed
end
section
/-! the reference, by program -/
abbrev X_X9_mobius : zM := (RX9, cX9_mobius, 1, (some .int), "mobius")
noncomputable def bX9_mobius_25 {d : Nat} (P : zP d) : zK d := (xiret P)
set_option maxRecDepth 100000 in
set_option maxHeartbeats 4000000 in
theorem sbX9_mobius_25 {d : Nat} [zGh] (P : zP d) : zSim X_X9_mobius 1 P 25 (bX9_mobius_25 P) := by
  unfold bX9_mobius_25
  exact sm_ireturn (pc := 25) dX9_mobius_25 rfl
noncomputable def bX9_mobius_11 {d : Nat} (P : zP d) (j25 : zK d) : zK d := (xpI 1 j25)
set_option maxRecDepth 100000 in
set_option maxHeartbeats 4000000 in
theorem sbX9_mobius_11 {d : Nat} [zGh] (P : zP d) (j25 : zK d) (hj25 : zSim X_X9_mobius 1 P 25 j25) : zSim X_X9_mobius 1 P 11 (bX9_mobius_11 P j25) := by
  unfold bX9_mobius_11
  refine sm_iconst (pc := 11) dX9_mobius_11 zc_i_1 ?_
  refine sm_goto (pc := 12) (tgt := 25) dX9_mobius_12 (by decide) ?_
  exact hj25
noncomputable def b_X9_mobius {d : Nat} (P : zP d) : zK d := (xild 0 (xpI 1 (xjoin (bX9_mobius_25 P) (fun j25 => (xjoin (bX9_mobius_11 P j25) (fun j11 => (xcmp Nat.beq j11 (xild 0 (xpI 6 (xcmp Nat.beq j11 (xild 0 (xpI 4 (xcmp Nat.beq (xpI 0 j25) (xpI 4294967295 j25))))))))))))))
set_option maxRecDepth 100000 in
set_option maxHeartbeats 4000000 in
theorem s_X9_mobius {d : Nat} [zGh] (P : zP d) : zSim X_X9_mobius 1 P 0 (b_X9_mobius P) := by
  unfold b_X9_mobius
  refine sm_iload_n (pc := 0) (n := 0) dX9_mobius_0 rfl ?_
  refine sm_iconst (pc := 1) dX9_mobius_1 zc_i_1 ?_
  refine sm_join (pc := 2) (pc' := 25) (sbX9_mobius_25 P) (fun j25 hj25 => ?_)
  refine sm_join (pc := 2) (pc' := 11) (sbX9_mobius_11 P j25 hj25) (fun j11 hj11 => ?_)
  refine sm_icmp_eq (pc := 2) (tgt := 11) dX9_mobius_2 (by decide) ?_ ?_
  · skip
    exact hj11
  · skip
    refine sm_iload_n (pc := 5) (n := 0) dX9_mobius_5 rfl ?_
    refine sm_bipush (pc := 6) dX9_mobius_6 zc_b_6 ?_
    refine sm_icmp_ne (pc := 8) (tgt := 15) dX9_mobius_8 (by decide) ?_ ?_
    · skip
      refine sm_iload_n (pc := 15) (n := 0) dX9_mobius_15 rfl ?_
      refine sm_iconst (pc := 16) dX9_mobius_16 zc_i_4 ?_
      refine sm_icmp_ne (pc := 17) (tgt := 24) dX9_mobius_17 (by decide) ?_ ?_
      · skip
        refine sm_iconst (pc := 24) dX9_mobius_24 zc_i_m1 ?_
        exact hj25
      · skip
        refine sm_iconst (pc := 20) dX9_mobius_20 zc_i_0 ?_
        refine sm_goto (pc := 21) (tgt := 25) dX9_mobius_21 (by decide) ?_
        exact hj25
    · skip
      exact hj11
noncomputable def f_X9_mobius {d : Nat} : List zV → zH d → zP d → Bool := zfn 1 b_X9_mobius
theorem m_X9_mobius {d : Nat} : zMet (d := d) X_X9_mobius yX9_mobius 1 f_X9_mobius := zmet_mk (X := X_X9_mobius) (by decide) rfl rfl s_X9_mobius

abbrev X_X9_units : zM := (RX9, cX9_units, 1, (some .int), "units")
noncomputable def bX9_units_19 {d : Nat} (P : zP d) : zK d := (xiret P)
set_option maxRecDepth 100000 in
set_option maxHeartbeats 4000000 in
theorem sbX9_units_19 {d : Nat} [zGh] (P : zP d) : zSim X_X9_units 1 P 19 (bX9_units_19 P) := by
  unfold bX9_units_19
  exact sm_ireturn (pc := 19) dX9_units_19 rfl
noncomputable def b_X9_units {d : Nat} (P : zP d) : zK d := (xild 0 (xpI 3 (xjoin (bX9_units_19 P) (fun j19 => (xcmp tge (xild 0 (xpI 5 (xcmp Nat.beq (xpI 4 j19) (xpI 2 j19)))) (xpI 1 j19))))))
set_option maxRecDepth 100000 in
set_option maxHeartbeats 4000000 in
theorem s_X9_units {d : Nat} [zGh] (P : zP d) : zSim X_X9_units 1 P 0 (b_X9_units P) := by
  unfold b_X9_units
  refine sm_iload_n (pc := 0) (n := 0) dX9_units_0 rfl ?_
  refine sm_iconst (pc := 1) dX9_units_1 zc_i_3 ?_
  refine sm_join (pc := 2) (pc' := 19) (sbX9_units_19 P) (fun j19 hj19 => ?_)
  refine sm_icmp_ge (pc := 2) (tgt := 9) dX9_units_2 (by decide) ?_ ?_
  · skip
    refine sm_iload_n (pc := 9) (n := 0) dX9_units_9 rfl ?_
    refine sm_iconst (pc := 10) dX9_units_10 zc_i_5 ?_
    refine sm_icmp_ne (pc := 11) (tgt := 18) dX9_units_11 (by decide) ?_ ?_
    · skip
      refine sm_iconst (pc := 18) dX9_units_18 zc_i_2 ?_
      exact hj19
    · skip
      refine sm_iconst (pc := 14) dX9_units_14 zc_i_4 ?_
      refine sm_goto (pc := 15) (tgt := 19) dX9_units_15 (by decide) ?_
      exact hj19
  · skip
    refine sm_iconst (pc := 5) dX9_units_5 zc_i_1 ?_
    refine sm_goto (pc := 6) (tgt := 19) dX9_units_6 (by decide) ?_
    exact hj19
noncomputable def f_X9_units {d : Nat} : List zV → zH d → zP d → Bool := zfn 1 b_X9_units
theorem m_X9_units {d : Nat} : zMet (d := d) X_X9_units yX9_units 1 f_X9_units := zmet_mk (X := X_X9_units) (by decide) rfl rfl s_X9_units

abbrev X_X9_modularOf : zM := (RX9, cX9_modularOf, 6, (some .int), "modularOf")
noncomputable def bX9_modularOf_88 {d : Nat} (P : zP d) (r4 : zK d) : zK d := (xinc 3 1 r4)
set_option maxRecDepth 100000 in
set_option maxHeartbeats 4000000 in
theorem sbX9_modularOf_88 {d : Nat} [zGh] (P : zP d) (r4 : zK d) (hr4 : zSim X_X9_modularOf 19 P 4 r4) : zSim X_X9_modularOf 19 P 88 (bX9_modularOf_88 P r4) := by
  unfold bX9_modularOf_88
  refine sm_iinc (pc := 88) (n := 3) dX9_modularOf_88 zc_i_1 ?_
  refine sm_goto (pc := 91) (tgt := 4) dX9_modularOf_91 (by decide) ?_
  exact hr4
noncomputable def bX9_modularOf_67 {d : Nat} (P : zP d) (r34 : zK d) : zK d := (xinc 5 1 r34)
set_option maxRecDepth 100000 in
set_option maxHeartbeats 4000000 in
theorem sbX9_modularOf_67 {d : Nat} [zGh] (P : zP d) (r34 : zK d) (hr34 : zSim X_X9_modularOf 19 P 34 r34) : zSim X_X9_modularOf 19 P 67 (bX9_modularOf_67 P r34) := by
  unfold bX9_modularOf_67
  refine sm_iinc (pc := 67) (n := 5) dX9_modularOf_67 zc_i_1 ?_
  refine sm_goto (pc := 70) (tgt := 34) dX9_modularOf_70 (by decide) ?_
  exact hr34
noncomputable def lX9_modularOf_34 {d : Nat} (P : zP d) (j88 : zK d) (r34 : zK d) : zK d := (xild 5 (xild 3 (xcmp tle (xild 3 (xild 5 (xbinN zrem (xjoin (bX9_modularOf_67 P r34) (fun j67 => (xif0 t0eq (xild 4 (xild 3 (xild 5 (xbinN zdiv (xcS 1 0 0 f_X9_mobius (xald 0 (xild 1 (xild 5 (xcV 25 3 0 0 f_X9_fixed (xbin zmul (xbin zadd (xist 4 j67)))))))))))) j67)))))) (xild 2 (xild 4 (xild 3 (xcS 1 0 0 f_X9_units (xbinN zdiv (xild 3 (xcS 1 0 0 f_X9_mobius (xbin zmul (xbin zadd (xist 2 j88)))))))))))))
set_option maxRecDepth 100000 in
set_option maxHeartbeats 4000000 in
theorem slX9_modularOf_34 {d : Nat} [zGh] (P : zP d) (j88 : zK d) (r34 : zK d) (hj88 : zSim X_X9_modularOf 19 P 88 j88) (hr34 : zSim X_X9_modularOf 19 P 34 r34) : zSim X_X9_modularOf 19 P 34 (lX9_modularOf_34 P j88 r34) := by
  unfold lX9_modularOf_34
  refine sm_iload (pc := 34) (n := 5) dX9_modularOf_34 ?_
  refine sm_iload_n (pc := 36) (n := 3) dX9_modularOf_36 rfl ?_
  refine sm_icmp_gt (pc := 37) (tgt := 73) dX9_modularOf_37 (by decide) ?_ ?_
  · skip
    refine sm_iload_n (pc := 73) (n := 2) dX9_modularOf_73 rfl ?_
    refine sm_iload (pc := 74) (n := 4) dX9_modularOf_74 ?_
    refine sm_iload_n (pc := 76) (n := 3) dX9_modularOf_76 rfl ?_
    refine sm_cS (pc := 77) (n := 1) (mc := 0) (ms := 0) m_X9_units (cr_X9_261 (X := X_X9_modularOf) (fr := 19) (frc := 1) (pc := 77) (mc := 0) (ms := 0) rfl (by decide) dX9_modularOf_77) ?_
    refine sm_idiv (pc := 80) dX9_modularOf_80 ?_
    refine sm_iload_n (pc := 81) (n := 3) dX9_modularOf_81 rfl ?_
    refine sm_cS (pc := 82) (n := 1) (mc := 0) (ms := 0) m_X9_mobius (cr_X9_255 (X := X_X9_modularOf) (fr := 19) (frc := 1) (pc := 82) (mc := 0) (ms := 0) rfl (by decide) dX9_modularOf_82) ?_
    refine sm_imul (pc := 85) dX9_modularOf_85 ?_
    refine sm_iadd (pc := 86) dX9_modularOf_86 ?_
    refine sm_istore_n (pc := 87) (n := 2) dX9_modularOf_87 rfl ?_
    exact hj88
  · skip
    refine sm_iload_n (pc := 40) (n := 3) dX9_modularOf_40 rfl ?_
    refine sm_iload (pc := 41) (n := 5) dX9_modularOf_41 ?_
    refine sm_irem (pc := 43) dX9_modularOf_43 ?_
    refine sm_join (pc := 44) (pc' := 67) (sbX9_modularOf_67 P r34 hr34) (fun j67 hj67 => ?_)
    refine sm_if_ne (pc := 44) (tgt := 67) dX9_modularOf_44 (by decide) ?_ ?_
    · skip
      exact hj67
    · skip
      refine sm_iload (pc := 47) (n := 4) dX9_modularOf_47 ?_
      refine sm_iload_n (pc := 49) (n := 3) dX9_modularOf_49 rfl ?_
      refine sm_iload (pc := 50) (n := 5) dX9_modularOf_50 ?_
      refine sm_idiv (pc := 52) dX9_modularOf_52 ?_
      refine sm_cS (pc := 53) (n := 1) (mc := 0) (ms := 0) m_X9_mobius (cr_X9_255 (X := X_X9_modularOf) (fr := 19) (frc := 1) (pc := 53) (mc := 0) (ms := 0) rfl (by decide) dX9_modularOf_53) ?_
      refine sm_aload_n (pc := 56) (n := 0) dX9_modularOf_56 rfl ?_
      refine sm_iload_n (pc := 57) (n := 1) dX9_modularOf_57 rfl ?_
      refine sm_iload (pc := 58) (n := 5) dX9_modularOf_58 ?_
      refine sm_cV (pc := 60) (ci := 9) (n := 3) (mc := 0) (ms := 0) rfl m_X9_fixed (cr_X9_258 (X := X_X9_modularOf) (fr := 19) (frc := 18) (pc := 60) (mc := 0) (ms := 0) rfl (by decide) dX9_modularOf_60) ?_
      refine sm_imul (pc := 63) dX9_modularOf_63 ?_
      refine sm_iadd (pc := 64) dX9_modularOf_64 ?_
      refine sm_istore (pc := 65) (n := 4) dX9_modularOf_65 ?_
      exact hj67
noncomputable def lX9_modularOf_4 {d : Nat} (P : zP d) (r4 : zK d) : zK d := (xild 3 (xald 0 (xgfR 25 6 (xild 1 (xald1 0 (xcmp tle (xald 0 (xgfR 25 6 (xild 1 (xald1 0 (xild 3 (xbinN zrem (xjoin (bX9_modularOf_88 P r4) (fun j88 => (xif0 t0eq (xpI 0 (xist 4 (xpI 1 (xist 5 (xloop (fun r34 => (lX9_modularOf_34 P j88 r34)) 100000))))) j88))))))))) (xild 2 (xiret P))))))))
set_option maxRecDepth 100000 in
set_option maxHeartbeats 4000000 in
theorem slX9_modularOf_4 {d : Nat} [zGh] (P : zP d) (r4 : zK d) (hr4 : zSim X_X9_modularOf 19 P 4 r4) : zSim X_X9_modularOf 19 P 4 (lX9_modularOf_4 P r4) := by
  unfold lX9_modularOf_4
  refine sm_iload_n (pc := 4) (n := 3) dX9_modularOf_4 rfl ?_
  refine sm_aload_n (pc := 5) (n := 0) dX9_modularOf_5 rfl ?_
  refine gf_X9_19 (pc := 6) rfl dX9_modularOf_6 ?_
  refine sm_iload_n (pc := 9) (n := 1) dX9_modularOf_9 rfl ?_
  refine sm_iaload (pc := 10) dX9_modularOf_10 ?_
  refine sm_icmp_gt (pc := 11) (tgt := 94) dX9_modularOf_11 (by decide) ?_ ?_
  · skip
    refine sm_iload_n (pc := 94) (n := 2) dX9_modularOf_94 rfl ?_
    exact sm_ireturn (pc := 95) dX9_modularOf_95 rfl
  · skip
    refine sm_aload_n (pc := 14) (n := 0) dX9_modularOf_14 rfl ?_
    refine gf_X9_19 (pc := 15) rfl dX9_modularOf_15 ?_
    refine sm_iload_n (pc := 18) (n := 1) dX9_modularOf_18 rfl ?_
    refine sm_iaload (pc := 19) dX9_modularOf_19 ?_
    refine sm_iload_n (pc := 20) (n := 3) dX9_modularOf_20 rfl ?_
    refine sm_irem (pc := 21) dX9_modularOf_21 ?_
    refine sm_join (pc := 22) (pc' := 88) (sbX9_modularOf_88 P r4 hr4) (fun j88 hj88 => ?_)
    refine sm_if_eq (pc := 22) (tgt := 28) dX9_modularOf_22 (by decide) ?_ ?_
    · skip
      refine sm_iconst (pc := 28) dX9_modularOf_28 zc_i_0 ?_
      refine sm_istore (pc := 29) (n := 4) dX9_modularOf_29 ?_
      refine sm_iconst (pc := 31) dX9_modularOf_31 zc_i_1 ?_
      refine sm_istore (pc := 32) (n := 5) dX9_modularOf_32 ?_
      exact sm_loop (fun r34 hr34 => slX9_modularOf_34 P j88 r34 hj88 hr34) _
    · skip
      refine sm_goto (pc := 25) (tgt := 88) dX9_modularOf_25 (by decide) ?_
      exact hj88
noncomputable def b_X9_modularOf {d : Nat} (P : zP d) : zK d := (xpI 0 (xist 2 (xpI 1 (xist 3 (xloop (fun r4 => (lX9_modularOf_4 P r4)) 100000)))))
set_option maxRecDepth 100000 in
set_option maxHeartbeats 4000000 in
theorem s_X9_modularOf {d : Nat} [zGh] (P : zP d) : zSim X_X9_modularOf 19 P 0 (b_X9_modularOf P) := by
  unfold b_X9_modularOf
  refine sm_iconst (pc := 0) dX9_modularOf_0 zc_i_0 ?_
  refine sm_istore_n (pc := 1) (n := 2) dX9_modularOf_1 rfl ?_
  refine sm_iconst (pc := 2) dX9_modularOf_2 zc_i_1 ?_
  refine sm_istore_n (pc := 3) (n := 3) dX9_modularOf_3 rfl ?_
  exact sm_loop (fun r4 hr4 => slX9_modularOf_4 P r4 hr4) _
noncomputable def f_X9_modularOf {d : Nat} : List zV → zH d → zP d → Bool := zfn 6 b_X9_modularOf
theorem m_X9_modularOf {d : Nat} : zMet (d := d) X_X9_modularOf yX9_modularOf 19 f_X9_modularOf := zmet_mk (X := X_X9_modularOf) (by decide) rfl rfl s_X9_modularOf

abbrev X_X9_decomposes : zM := (RX9, cX9_decomposes, 8, none, "decomposes")
noncomputable def bX9_decomposes_500 {d : Nat} (P : zP d) (r447 : zK d) : zK d := (xast1 0 (fun v => v) (xinc 3 1 r447))
set_option maxRecDepth 100000 in
set_option maxHeartbeats 4000000 in
theorem sbX9_decomposes_500 {d : Nat} [zGh] (P : zP d) (r447 : zK d) (hr447 : zSim X_X9_decomposes 2 P 447 r447) : zSim X_X9_decomposes 2 P 500 (bX9_decomposes_500 P r447) := by
  unfold bX9_decomposes_500
  refine sm_iastore (pc := 500) dX9_decomposes_500 ?_
  refine sm_iinc (pc := 501) (n := 3) dX9_decomposes_501 zc_i_1 ?_
  refine sm_goto (pc := 504) (tgt := 447) dX9_decomposes_504 (by decide) ?_
  exact hr447
noncomputable def cX9_decomposes_486 {d : Nat} (P : zP d) (r447 : zK d) : zK d := (xjoin (bX9_decomposes_500 P r447) (fun j500 => (xcmp tle (xild 4 j500) (xild 4 (xpI 32003 (xbin zsub j500))))))
set_option maxRecDepth 100000 in
set_option maxHeartbeats 4000000 in
theorem scX9_decomposes_486 {d : Nat} [zGh] (P : zP d) (r447 : zK d) (hr447 : zSim X_X9_decomposes 2 P 447 r447) : zSim X_X9_decomposes 2 P 486 (cX9_decomposes_486 P r447) := by
  unfold cX9_decomposes_486
  refine sm_join (pc := 486) (pc' := 500) (sbX9_decomposes_500 P r447 hr447) (fun j500 hj500 => ?_)
  refine sm_icmp_le (pc := 486) (tgt := 498) dX9_decomposes_486 (by decide) ?_ ?_
  · skip
    refine sm_iload (pc := 498) (n := 4) dX9_decomposes_498 ?_
    exact hj500
  · skip
    refine sm_iload (pc := 489) (n := 4) dX9_decomposes_489 ?_
    refine sm_sipush (pc := 491) dX9_decomposes_491 zc_s_32003 ?_
    refine sm_isub (pc := 494) dX9_decomposes_494 ?_
    refine sm_goto (pc := 495) (tgt := 500) dX9_decomposes_495 (by decide) ?_
    exact hj500
noncomputable def lX9_decomposes_447 {d : Nat} (P : zP d) (r437 : zK d) (r447 : zK d) : zK d := (xild 3 (xald 0 (xgfI 25 11 (xcmp tge (xinc 2 1 r437) (xald 0 (xgfR 25 39 (xpI 22 (xild 3 (xbin zmul (xpI 11 (xbin zadd (xild 2 (xbin zadd (xald1 0 (xist 4 (xald 0 (xgfR 25 38 (xpI 11 (xild 2 (xbin zmul (xild 3 (xbin zadd (xild 4 (xpI 16001 (cX9_decomposes_486 P r447)))))))))))))))))))))))))
set_option maxRecDepth 100000 in
set_option maxHeartbeats 4000000 in
theorem slX9_decomposes_447 {d : Nat} [zGh] (P : zP d) (r437 : zK d) (r447 : zK d) (hr437 : zSim X_X9_decomposes 2 P 437 r437) (hr447 : zSim X_X9_decomposes 2 P 447 r447) : zSim X_X9_decomposes 2 P 447 (lX9_decomposes_447 P r437 r447) := by
  unfold lX9_decomposes_447
  refine sm_iload_n (pc := 447) (n := 3) dX9_decomposes_447 rfl ?_
  refine sm_aload_n (pc := 448) (n := 0) dX9_decomposes_448 rfl ?_
  refine gf_X9_172 (pc := 449) rfl dX9_decomposes_449 ?_
  refine sm_icmp_ge (pc := 452) (tgt := 507) dX9_decomposes_452 (by decide) ?_ ?_
  · skip
    refine sm_iinc (pc := 507) (n := 2) dX9_decomposes_507 zc_i_1 ?_
    refine sm_goto (pc := 510) (tgt := 437) dX9_decomposes_510 (by decide) ?_
    exact hr437
  · skip
    refine sm_aload_n (pc := 455) (n := 0) dX9_decomposes_455 rfl ?_
    refine gf_X9_102 (pc := 456) rfl dX9_decomposes_456 ?_
    refine sm_bipush (pc := 459) dX9_decomposes_459 zc_b_22 ?_
    refine sm_iload_n (pc := 461) (n := 3) dX9_decomposes_461 rfl ?_
    refine sm_imul (pc := 462) dX9_decomposes_462 ?_
    refine sm_bipush (pc := 463) dX9_decomposes_463 zc_b_11 ?_
    refine sm_iadd (pc := 465) dX9_decomposes_465 ?_
    refine sm_iload_n (pc := 466) (n := 2) dX9_decomposes_466 rfl ?_
    refine sm_iadd (pc := 467) dX9_decomposes_467 ?_
    refine sm_iaload (pc := 468) dX9_decomposes_468 ?_
    refine sm_istore (pc := 469) (n := 4) dX9_decomposes_469 ?_
    refine sm_aload_n (pc := 471) (n := 0) dX9_decomposes_471 rfl ?_
    refine gf_X9_99 (pc := 472) rfl dX9_decomposes_472 ?_
    refine sm_bipush (pc := 475) dX9_decomposes_475 zc_b_11 ?_
    refine sm_iload_n (pc := 477) (n := 2) dX9_decomposes_477 rfl ?_
    refine sm_imul (pc := 478) dX9_decomposes_478 ?_
    refine sm_iload_n (pc := 479) (n := 3) dX9_decomposes_479 rfl ?_
    refine sm_iadd (pc := 480) dX9_decomposes_480 ?_
    refine sm_iload (pc := 481) (n := 4) dX9_decomposes_481 ?_
    refine sm_sipush (pc := 483) dX9_decomposes_483 zc_s_16001 ?_
    exact scX9_decomposes_486 P r447 hr447
noncomputable def lX9_decomposes_437 {d : Nat} (P : zP d) (r437 : zK d) : zK d := (xild 2 (xald 0 (xgfI 25 2 (xcmp tge (xvret P) (xpI 0 (xist 3 (xloop (fun r447 => (lX9_decomposes_447 P r437 r447)) 100000)))))))
set_option maxRecDepth 100000 in
set_option maxHeartbeats 4000000 in
theorem slX9_decomposes_437 {d : Nat} [zGh] (P : zP d) (r437 : zK d) (hr437 : zSim X_X9_decomposes 2 P 437 r437) : zSim X_X9_decomposes 2 P 437 (lX9_decomposes_437 P r437) := by
  unfold lX9_decomposes_437
  refine sm_iload_n (pc := 437) (n := 2) dX9_decomposes_437 rfl ?_
  refine sm_aload_n (pc := 438) (n := 0) dX9_decomposes_438 rfl ?_
  refine gf_X9_153 (pc := 439) rfl dX9_decomposes_439 ?_
  refine sm_icmp_ge (pc := 442) (tgt := 513) dX9_decomposes_442 (by decide) ?_ ?_
  · skip
    exact sm_vreturn (pc := 513) dX9_decomposes_513 rfl
  · skip
    refine sm_iconst (pc := 445) dX9_decomposes_445 zc_i_0 ?_
    refine sm_istore_n (pc := 446) (n := 3) dX9_decomposes_446 rfl ?_
    exact sm_loop (fun r447 hr447 => slX9_decomposes_447 P r437 r447 hr437 hr447) _
noncomputable def bX9_decomposes_423 {d : Nat} (P : zP d) (r319 : zK d) : zK d := (xinc 5 1 r319)
set_option maxRecDepth 100000 in
set_option maxHeartbeats 4000000 in
theorem sbX9_decomposes_423 {d : Nat} [zGh] (P : zP d) (r319 : zK d) (hr319 : zSim X_X9_decomposes 2 P 319 r319) : zSim X_X9_decomposes 2 P 423 (bX9_decomposes_423 P r319) := by
  unfold bX9_decomposes_423
  refine sm_iinc (pc := 423) (n := 5) dX9_decomposes_423 zc_i_1 ?_
  refine sm_goto (pc := 426) (tgt := 319) dX9_decomposes_426 (by decide) ?_
  exact hr319
noncomputable def cX9_decomposes_397 {d : Nat} (P : zP d) (r356 : zK d) : zK d := (xgfR 25 39 (xpI 22 (xild 2 (xbin zmul (xild 7 (xbin zadd (xald1 0 (xi2l (xbinj zmulj (xbinj zaddj (xpL 32003 (xbinjN zremj (xl2i (xast1 0 (fun v => v) (xinc 7 1 r356)))))))))))))))
set_option maxRecDepth 100000 in
set_option maxHeartbeats 4000000 in
theorem scX9_decomposes_397 {d : Nat} [zGh] (P : zP d) (r356 : zK d) (hr356 : zSim X_X9_decomposes 2 P 356 r356) : zSim X_X9_decomposes 2 P 397 (cX9_decomposes_397 P r356) := by
  unfold cX9_decomposes_397
  refine gf_X9_102 (pc := 397) rfl dX9_decomposes_397 ?_
  refine sm_bipush (pc := 400) dX9_decomposes_400 zc_b_22 ?_
  refine sm_iload_n (pc := 402) (n := 2) dX9_decomposes_402 rfl ?_
  refine sm_imul (pc := 403) dX9_decomposes_403 ?_
  refine sm_iload (pc := 404) (n := 7) dX9_decomposes_404 ?_
  refine sm_iadd (pc := 406) dX9_decomposes_406 ?_
  refine sm_iaload (pc := 407) dX9_decomposes_407 ?_
  refine sm_i2l (pc := 408) dX9_decomposes_408 ?_
  refine sm_lmul (pc := 409) dX9_decomposes_409 ?_
  refine sm_ladd (pc := 410) dX9_decomposes_410 ?_
  refine sm_ldc2 (pc := 411) dX9_decomposes_411 wd_1017 zc_cl_32003 ?_
  refine sm_lrem (pc := 414) dX9_decomposes_414 ?_
  refine sm_l2i (pc := 415) dX9_decomposes_415 ?_
  refine sm_iastore (pc := 416) dX9_decomposes_416 ?_
  refine sm_iinc (pc := 417) (n := 7) dX9_decomposes_417 zc_i_1 ?_
  refine sm_goto (pc := 420) (tgt := 356) dX9_decomposes_420 (by decide) ?_
  exact hr356
noncomputable def lX9_decomposes_356 {d : Nat} (P : zP d) (j423 : zK d) (r356 : zK d) : zK d := (xild 7 (xpI 22 (xcmp tge j423 (xald 0 (xgfR 25 39 (xpI 22 (xild 5 (xbin zmul (xild 7 (xbin zadd (xald 0 (xgfR 25 39 (xpI 22 (xild 5 (xbin zmul (xild 7 (xbin zadd (xald1 0 (xi2l (xpI 32003 (xild 6 (xbin zsub (xi2l (xald 0 (cX9_decomposes_397 P r356)))))))))))))))))))))))))
set_option maxRecDepth 100000 in
set_option maxHeartbeats 4000000 in
theorem slX9_decomposes_356 {d : Nat} [zGh] (P : zP d) (j423 : zK d) (r356 : zK d) (hj423 : zSim X_X9_decomposes 2 P 423 j423) (hr356 : zSim X_X9_decomposes 2 P 356 r356) : zSim X_X9_decomposes 2 P 356 (lX9_decomposes_356 P j423 r356) := by
  unfold lX9_decomposes_356
  refine sm_iload (pc := 356) (n := 7) dX9_decomposes_356 ?_
  refine sm_bipush (pc := 358) dX9_decomposes_358 zc_b_22 ?_
  refine sm_icmp_ge (pc := 360) (tgt := 423) dX9_decomposes_360 (by decide) ?_ ?_
  · skip
    exact hj423
  · skip
    refine sm_aload_n (pc := 363) (n := 0) dX9_decomposes_363 rfl ?_
    refine gf_X9_102 (pc := 364) rfl dX9_decomposes_364 ?_
    refine sm_bipush (pc := 367) dX9_decomposes_367 zc_b_22 ?_
    refine sm_iload (pc := 369) (n := 5) dX9_decomposes_369 ?_
    refine sm_imul (pc := 371) dX9_decomposes_371 ?_
    refine sm_iload (pc := 372) (n := 7) dX9_decomposes_372 ?_
    refine sm_iadd (pc := 374) dX9_decomposes_374 ?_
    refine sm_aload_n (pc := 375) (n := 0) dX9_decomposes_375 rfl ?_
    refine gf_X9_102 (pc := 376) rfl dX9_decomposes_376 ?_
    refine sm_bipush (pc := 379) dX9_decomposes_379 zc_b_22 ?_
    refine sm_iload (pc := 381) (n := 5) dX9_decomposes_381 ?_
    refine sm_imul (pc := 383) dX9_decomposes_383 ?_
    refine sm_iload (pc := 384) (n := 7) dX9_decomposes_384 ?_
    refine sm_iadd (pc := 386) dX9_decomposes_386 ?_
    refine sm_iaload (pc := 387) dX9_decomposes_387 ?_
    refine sm_i2l (pc := 388) dX9_decomposes_388 ?_
    refine sm_sipush (pc := 389) dX9_decomposes_389 zc_s_32003 ?_
    refine sm_iload (pc := 392) (n := 6) dX9_decomposes_392 ?_
    refine sm_isub (pc := 394) dX9_decomposes_394 ?_
    refine sm_i2l (pc := 395) dX9_decomposes_395 ?_
    refine sm_aload_n (pc := 396) (n := 0) dX9_decomposes_396 rfl ?_
    exact scX9_decomposes_397 P r356 hr356
noncomputable def lX9_decomposes_319 {d : Nat} (P : zP d) (r136 : zK d) (r319 : zK d) : zK d := (xild 5 (xild 1 (xcmp tge (xinc 2 1 r136) (xald 0 (xgfR 25 39 (xpI 22 (xild 5 (xbin zmul (xild 2 (xbin zadd (xald1 0 (xist 6 (xild 5 (xild 2 (xjoin (bX9_decomposes_423 P r319) (fun j423 => (xcmp Nat.beq j423 (xild 6 (xif0 t0eq j423 (xpI 0 (xist 7 (xloop (fun r356 => (lX9_decomposes_356 P j423 r356)) 100000))))))))))))))))))))))
set_option maxRecDepth 100000 in
set_option maxHeartbeats 4000000 in
theorem slX9_decomposes_319 {d : Nat} [zGh] (P : zP d) (r136 : zK d) (r319 : zK d) (hr136 : zSim X_X9_decomposes 2 P 136 r136) (hr319 : zSim X_X9_decomposes 2 P 319 r319) : zSim X_X9_decomposes 2 P 319 (lX9_decomposes_319 P r136 r319) := by
  unfold lX9_decomposes_319
  refine sm_iload (pc := 319) (n := 5) dX9_decomposes_319 ?_
  refine sm_iload_n (pc := 321) (n := 1) dX9_decomposes_321 rfl ?_
  refine sm_icmp_ge (pc := 322) (tgt := 429) dX9_decomposes_322 (by decide) ?_ ?_
  · skip
    refine sm_iinc (pc := 429) (n := 2) dX9_decomposes_429 zc_i_1 ?_
    refine sm_goto (pc := 432) (tgt := 136) dX9_decomposes_432 (by decide) ?_
    exact hr136
  · skip
    refine sm_aload_n (pc := 325) (n := 0) dX9_decomposes_325 rfl ?_
    refine gf_X9_102 (pc := 326) rfl dX9_decomposes_326 ?_
    refine sm_bipush (pc := 329) dX9_decomposes_329 zc_b_22 ?_
    refine sm_iload (pc := 331) (n := 5) dX9_decomposes_331 ?_
    refine sm_imul (pc := 333) dX9_decomposes_333 ?_
    refine sm_iload_n (pc := 334) (n := 2) dX9_decomposes_334 rfl ?_
    refine sm_iadd (pc := 335) dX9_decomposes_335 ?_
    refine sm_iaload (pc := 336) dX9_decomposes_336 ?_
    refine sm_istore (pc := 337) (n := 6) dX9_decomposes_337 ?_
    refine sm_iload (pc := 339) (n := 5) dX9_decomposes_339 ?_
    refine sm_iload_n (pc := 341) (n := 2) dX9_decomposes_341 rfl ?_
    refine sm_join (pc := 342) (pc' := 423) (sbX9_decomposes_423 P r319 hr319) (fun j423 hj423 => ?_)
    refine sm_icmp_eq (pc := 342) (tgt := 423) dX9_decomposes_342 (by decide) ?_ ?_
    · skip
      exact hj423
    · skip
      refine sm_iload (pc := 345) (n := 6) dX9_decomposes_345 ?_
      refine sm_if_ne (pc := 347) (tgt := 353) dX9_decomposes_347 (by decide) ?_ ?_
      · skip
        refine sm_iconst (pc := 353) dX9_decomposes_353 zc_i_0 ?_
        refine sm_istore (pc := 354) (n := 7) dX9_decomposes_354 ?_
        exact sm_loop (fun r356 hr356 => slX9_decomposes_356 P j423 r356 hj423 hr356) _
      · skip
        refine sm_goto (pc := 350) (tgt := 423) dX9_decomposes_350 (by decide) ?_
        exact hj423
noncomputable def cX9_decomposes_308 {d : Nat} (P : zP d) (r269 : zK d) : zK d := (xl2i (xast1 0 (fun v => v) (xinc 5 1 r269)))
set_option maxRecDepth 100000 in
set_option maxHeartbeats 4000000 in
theorem scX9_decomposes_308 {d : Nat} [zGh] (P : zP d) (r269 : zK d) (hr269 : zSim X_X9_decomposes 2 P 269 r269) : zSim X_X9_decomposes 2 P 308 (cX9_decomposes_308 P r269) := by
  unfold cX9_decomposes_308
  refine sm_l2i (pc := 308) dX9_decomposes_308 ?_
  refine sm_iastore (pc := 309) dX9_decomposes_309 ?_
  refine sm_iinc (pc := 310) (n := 5) dX9_decomposes_310 zc_i_1 ?_
  refine sm_goto (pc := 313) (tgt := 269) dX9_decomposes_313 (by decide) ?_
  exact hr269
noncomputable def lX9_decomposes_269 {d : Nat} (P : zP d) (r136 : zK d) (r269 : zK d) : zK d := (xild 5 (xpI 22 (xcmp tge (xpI 0 (xist 5 (xloop (fun r319 => (lX9_decomposes_319 P r136 r319)) 100000))) (xald 0 (xgfR 25 39 (xpI 22 (xild 2 (xbin zmul (xild 5 (xbin zadd (xald 0 (xgfR 25 39 (xpI 22 (xild 2 (xbin zmul (xild 5 (xbin zadd (xald1 0 (xi2l (xild 4 (xi2l (xbinj zmulj (xpL 32003 (xbinjN zremj (cX9_decomposes_308 P r269)))))))))))))))))))))))))
set_option maxRecDepth 100000 in
set_option maxHeartbeats 4000000 in
theorem slX9_decomposes_269 {d : Nat} [zGh] (P : zP d) (r136 : zK d) (r269 : zK d) (hr136 : zSim X_X9_decomposes 2 P 136 r136) (hr269 : zSim X_X9_decomposes 2 P 269 r269) : zSim X_X9_decomposes 2 P 269 (lX9_decomposes_269 P r136 r269) := by
  unfold lX9_decomposes_269
  refine sm_iload (pc := 269) (n := 5) dX9_decomposes_269 ?_
  refine sm_bipush (pc := 271) dX9_decomposes_271 zc_b_22 ?_
  refine sm_icmp_ge (pc := 273) (tgt := 316) dX9_decomposes_273 (by decide) ?_ ?_
  · skip
    refine sm_iconst (pc := 316) dX9_decomposes_316 zc_i_0 ?_
    refine sm_istore (pc := 317) (n := 5) dX9_decomposes_317 ?_
    exact sm_loop (fun r319 hr319 => slX9_decomposes_319 P r136 r319 hr136 hr319) _
  · skip
    refine sm_aload_n (pc := 276) (n := 0) dX9_decomposes_276 rfl ?_
    refine gf_X9_102 (pc := 277) rfl dX9_decomposes_277 ?_
    refine sm_bipush (pc := 280) dX9_decomposes_280 zc_b_22 ?_
    refine sm_iload_n (pc := 282) (n := 2) dX9_decomposes_282 rfl ?_
    refine sm_imul (pc := 283) dX9_decomposes_283 ?_
    refine sm_iload (pc := 284) (n := 5) dX9_decomposes_284 ?_
    refine sm_iadd (pc := 286) dX9_decomposes_286 ?_
    refine sm_aload_n (pc := 287) (n := 0) dX9_decomposes_287 rfl ?_
    refine gf_X9_102 (pc := 288) rfl dX9_decomposes_288 ?_
    refine sm_bipush (pc := 291) dX9_decomposes_291 zc_b_22 ?_
    refine sm_iload_n (pc := 293) (n := 2) dX9_decomposes_293 rfl ?_
    refine sm_imul (pc := 294) dX9_decomposes_294 ?_
    refine sm_iload (pc := 295) (n := 5) dX9_decomposes_295 ?_
    refine sm_iadd (pc := 297) dX9_decomposes_297 ?_
    refine sm_iaload (pc := 298) dX9_decomposes_298 ?_
    refine sm_i2l (pc := 299) dX9_decomposes_299 ?_
    refine sm_iload (pc := 300) (n := 4) dX9_decomposes_300 ?_
    refine sm_i2l (pc := 302) dX9_decomposes_302 ?_
    refine sm_lmul (pc := 303) dX9_decomposes_303 ?_
    refine sm_ldc2 (pc := 304) dX9_decomposes_304 wd_1017 zc_cl_32003 ?_
    refine sm_lrem (pc := 307) dX9_decomposes_307 ?_
    exact scX9_decomposes_308 P r269 hr269
noncomputable def bX9_decomposes_244 {d : Nat} (P : zP d) (r136 : zK d) : zK d := (xald 0 (xgfR 25 39 (xpI 22 (xild 2 (xbin zmul (xild 2 (xbin zadd (xald1 0 (xpI 32001 (xpI 32003 (xcS 3 0 0 f_X9_power (xist 4 (xpI 0 (xist 5 (xloop (fun r269 => (lX9_decomposes_269 P r136 r269)) 100000)))))))))))))))
set_option maxRecDepth 100000 in
set_option maxHeartbeats 4000000 in
theorem sbX9_decomposes_244 {d : Nat} [zGh] (P : zP d) (r136 : zK d) (hr136 : zSim X_X9_decomposes 2 P 136 r136) : zSim X_X9_decomposes 2 P 244 (bX9_decomposes_244 P r136) := by
  unfold bX9_decomposes_244
  refine sm_aload_n (pc := 244) (n := 0) dX9_decomposes_244 rfl ?_
  refine gf_X9_102 (pc := 245) rfl dX9_decomposes_245 ?_
  refine sm_bipush (pc := 248) dX9_decomposes_248 zc_b_22 ?_
  refine sm_iload_n (pc := 250) (n := 2) dX9_decomposes_250 rfl ?_
  refine sm_imul (pc := 251) dX9_decomposes_251 ?_
  refine sm_iload_n (pc := 252) (n := 2) dX9_decomposes_252 rfl ?_
  refine sm_iadd (pc := 253) dX9_decomposes_253 ?_
  refine sm_iaload (pc := 254) dX9_decomposes_254 ?_
  refine sm_sipush (pc := 255) dX9_decomposes_255 zc_s_32001 ?_
  refine sm_sipush (pc := 258) dX9_decomposes_258 zc_s_32003 ?_
  refine sm_cS (pc := 261) (n := 3) (mc := 0) (ms := 0) m_X9_power (cr_X9_238 (X := X_X9_decomposes) (fr := 2) (frc := 1) (pc := 261) (mc := 0) (ms := 0) rfl (by decide) dX9_decomposes_261) ?_
  refine sm_istore (pc := 264) (n := 4) dX9_decomposes_264 ?_
  refine sm_iconst (pc := 266) dX9_decomposes_266 zc_i_0 ?_
  refine sm_istore (pc := 267) (n := 5) dX9_decomposes_267 ?_
  exact sm_loop (fun r269 hr269 => slX9_decomposes_269 P r136 r269 hr136 hr269) _
noncomputable def cX9_decomposes_215 {d : Nat} (P : zP d) (r174 : zK d) : zK d := (xpI 22 (xild 2 (xbin zmul (xild 4 (xbin zadd (xald1 0 (xast1 0 (fun v => v) (xald 0 (xgfR 25 39 (xpI 22 (xild 2 (xbin zmul (xild 4 (xbin zadd (xild 5 (xast1 0 (fun v => v) (xinc 4 1 r174)))))))))))))))))
set_option maxRecDepth 100000 in
set_option maxHeartbeats 4000000 in
theorem scX9_decomposes_215 {d : Nat} [zGh] (P : zP d) (r174 : zK d) (hr174 : zSim X_X9_decomposes 2 P 174 r174) : zSim X_X9_decomposes 2 P 215 (cX9_decomposes_215 P r174) := by
  unfold cX9_decomposes_215
  refine sm_bipush (pc := 215) dX9_decomposes_215 zc_b_22 ?_
  refine sm_iload_n (pc := 217) (n := 2) dX9_decomposes_217 rfl ?_
  refine sm_imul (pc := 218) dX9_decomposes_218 ?_
  refine sm_iload (pc := 219) (n := 4) dX9_decomposes_219 ?_
  refine sm_iadd (pc := 221) dX9_decomposes_221 ?_
  refine sm_iaload (pc := 222) dX9_decomposes_222 ?_
  refine sm_iastore (pc := 223) dX9_decomposes_223 ?_
  refine sm_aload_n (pc := 224) (n := 0) dX9_decomposes_224 rfl ?_
  refine gf_X9_102 (pc := 225) rfl dX9_decomposes_225 ?_
  refine sm_bipush (pc := 228) dX9_decomposes_228 zc_b_22 ?_
  refine sm_iload_n (pc := 230) (n := 2) dX9_decomposes_230 rfl ?_
  refine sm_imul (pc := 231) dX9_decomposes_231 ?_
  refine sm_iload (pc := 232) (n := 4) dX9_decomposes_232 ?_
  refine sm_iadd (pc := 234) dX9_decomposes_234 ?_
  refine sm_iload (pc := 235) (n := 5) dX9_decomposes_235 ?_
  refine sm_iastore (pc := 237) dX9_decomposes_237 ?_
  refine sm_iinc (pc := 238) (n := 4) dX9_decomposes_238 zc_i_1 ?_
  refine sm_goto (pc := 241) (tgt := 174) dX9_decomposes_241 (by decide) ?_
  exact hr174
noncomputable def lX9_decomposes_174 {d : Nat} (P : zP d) (r136 : zK d) (r174 : zK d) : zK d := (xild 4 (xpI 22 (xjoin (bX9_decomposes_244 P r136) (fun j244 => (xcmp tge j244 (xild 3 (xild 1 (xcmp tge j244 (xald 0 (xgfR 25 39 (xpI 22 (xild 3 (xbin zmul (xild 4 (xbin zadd (xald1 0 (xist 5 (xald 0 (xgfR 25 39 (xpI 22 (xild 3 (xbin zmul (xild 4 (xbin zadd (xald 0 (xgfR 25 39 (cX9_decomposes_215 P r174)))))))))))))))))))))))))))
set_option maxRecDepth 100000 in
set_option maxHeartbeats 4000000 in
theorem slX9_decomposes_174 {d : Nat} [zGh] (P : zP d) (r136 : zK d) (r174 : zK d) (hr136 : zSim X_X9_decomposes 2 P 136 r136) (hr174 : zSim X_X9_decomposes 2 P 174 r174) : zSim X_X9_decomposes 2 P 174 (lX9_decomposes_174 P r136 r174) := by
  unfold lX9_decomposes_174
  refine sm_iload (pc := 174) (n := 4) dX9_decomposes_174 ?_
  refine sm_bipush (pc := 176) dX9_decomposes_176 zc_b_22 ?_
  refine sm_join (pc := 178) (pc' := 244) (sbX9_decomposes_244 P r136 hr136) (fun j244 hj244 => ?_)
  refine sm_icmp_ge (pc := 178) (tgt := 244) dX9_decomposes_178 (by decide) ?_ ?_
  · skip
    exact hj244
  · skip
    refine sm_iload_n (pc := 181) (n := 3) dX9_decomposes_181 rfl ?_
    refine sm_iload_n (pc := 182) (n := 1) dX9_decomposes_182 rfl ?_
    refine sm_icmp_ge (pc := 183) (tgt := 244) dX9_decomposes_183 (by decide) ?_ ?_
    · skip
      exact hj244
    · skip
      refine sm_aload_n (pc := 186) (n := 0) dX9_decomposes_186 rfl ?_
      refine gf_X9_102 (pc := 187) rfl dX9_decomposes_187 ?_
      refine sm_bipush (pc := 190) dX9_decomposes_190 zc_b_22 ?_
      refine sm_iload_n (pc := 192) (n := 3) dX9_decomposes_192 rfl ?_
      refine sm_imul (pc := 193) dX9_decomposes_193 ?_
      refine sm_iload (pc := 194) (n := 4) dX9_decomposes_194 ?_
      refine sm_iadd (pc := 196) dX9_decomposes_196 ?_
      refine sm_iaload (pc := 197) dX9_decomposes_197 ?_
      refine sm_istore (pc := 198) (n := 5) dX9_decomposes_198 ?_
      refine sm_aload_n (pc := 200) (n := 0) dX9_decomposes_200 rfl ?_
      refine gf_X9_102 (pc := 201) rfl dX9_decomposes_201 ?_
      refine sm_bipush (pc := 204) dX9_decomposes_204 zc_b_22 ?_
      refine sm_iload_n (pc := 206) (n := 3) dX9_decomposes_206 rfl ?_
      refine sm_imul (pc := 207) dX9_decomposes_207 ?_
      refine sm_iload (pc := 208) (n := 4) dX9_decomposes_208 ?_
      refine sm_iadd (pc := 210) dX9_decomposes_210 ?_
      refine sm_aload_n (pc := 211) (n := 0) dX9_decomposes_211 rfl ?_
      refine gf_X9_102 (pc := 212) rfl dX9_decomposes_212 ?_
      exact scX9_decomposes_215 P r174 hr174
noncomputable def bX9_decomposes_171 {d : Nat} (P : zP d) (r136 : zK d) : zK d := (xpI 0 (xist 4 (xloop (fun r174 => (lX9_decomposes_174 P r136 r174)) 100000)))
set_option maxRecDepth 100000 in
set_option maxHeartbeats 4000000 in
theorem sbX9_decomposes_171 {d : Nat} [zGh] (P : zP d) (r136 : zK d) (hr136 : zSim X_X9_decomposes 2 P 136 r136) : zSim X_X9_decomposes 2 P 171 (bX9_decomposes_171 P r136) := by
  unfold bX9_decomposes_171
  refine sm_iconst (pc := 171) dX9_decomposes_171 zc_i_0 ?_
  refine sm_istore (pc := 172) (n := 4) dX9_decomposes_172 ?_
  exact sm_loop (fun r174 hr174 => slX9_decomposes_174 P r136 r174 hr136 hr174) _
noncomputable def lX9_decomposes_146 {d : Nat} (P : zP d) (r136 : zK d) (r146 : zK d) : zK d := (xild 3 (xild 1 (xjoin (bX9_decomposes_171 P r136) (fun j171 => (xcmp tge j171 (xald 0 (xgfR 25 39 (xpI 22 (xild 3 (xbin zmul (xild 2 (xbin zadd (xald1 0 (xif0 t0eq (xinc 3 1 r146) j171))))))))))))))
set_option maxRecDepth 100000 in
set_option maxHeartbeats 4000000 in
theorem slX9_decomposes_146 {d : Nat} [zGh] (P : zP d) (r136 : zK d) (r146 : zK d) (hr136 : zSim X_X9_decomposes 2 P 136 r136) (hr146 : zSim X_X9_decomposes 2 P 146 r146) : zSim X_X9_decomposes 2 P 146 (lX9_decomposes_146 P r136 r146) := by
  unfold lX9_decomposes_146
  refine sm_iload_n (pc := 146) (n := 3) dX9_decomposes_146 rfl ?_
  refine sm_iload_n (pc := 147) (n := 1) dX9_decomposes_147 rfl ?_
  refine sm_join (pc := 148) (pc' := 171) (sbX9_decomposes_171 P r136 hr136) (fun j171 hj171 => ?_)
  refine sm_icmp_ge (pc := 148) (tgt := 171) dX9_decomposes_148 (by decide) ?_ ?_
  · skip
    exact hj171
  · skip
    refine sm_aload_n (pc := 151) (n := 0) dX9_decomposes_151 rfl ?_
    refine gf_X9_102 (pc := 152) rfl dX9_decomposes_152 ?_
    refine sm_bipush (pc := 155) dX9_decomposes_155 zc_b_22 ?_
    refine sm_iload_n (pc := 157) (n := 3) dX9_decomposes_157 rfl ?_
    refine sm_imul (pc := 158) dX9_decomposes_158 ?_
    refine sm_iload_n (pc := 159) (n := 2) dX9_decomposes_159 rfl ?_
    refine sm_iadd (pc := 160) dX9_decomposes_160 ?_
    refine sm_iaload (pc := 161) dX9_decomposes_161 ?_
    refine sm_if_ne (pc := 162) (tgt := 171) dX9_decomposes_162 (by decide) ?_ ?_
    · skip
      exact hj171
    · skip
      refine sm_iinc (pc := 165) (n := 3) dX9_decomposes_165 zc_i_1 ?_
      refine sm_goto (pc := 168) (tgt := 146) dX9_decomposes_168 (by decide) ?_
      exact hr146
noncomputable def lX9_decomposes_136 {d : Nat} (P : zP d) (r136 : zK d) : zK d := (xild 2 (xald 0 (xgfI 25 11 (xcmp tge (xpI 0 (xist 2 (xloop (fun r437 => (lX9_decomposes_437 P r437)) 100000))) (xild 2 (xist 3 (xloop (fun r146 => (lX9_decomposes_146 P r136 r146)) 100000)))))))
set_option maxRecDepth 100000 in
set_option maxHeartbeats 4000000 in
theorem slX9_decomposes_136 {d : Nat} [zGh] (P : zP d) (r136 : zK d) (hr136 : zSim X_X9_decomposes 2 P 136 r136) : zSim X_X9_decomposes 2 P 136 (lX9_decomposes_136 P r136) := by
  unfold lX9_decomposes_136
  refine sm_iload_n (pc := 136) (n := 2) dX9_decomposes_136 rfl ?_
  refine sm_aload_n (pc := 137) (n := 0) dX9_decomposes_137 rfl ?_
  refine gf_X9_172 (pc := 138) rfl dX9_decomposes_138 ?_
  refine sm_icmp_ge (pc := 141) (tgt := 435) dX9_decomposes_141 (by decide) ?_ ?_
  · skip
    refine sm_iconst (pc := 435) dX9_decomposes_435 zc_i_0 ?_
    refine sm_istore_n (pc := 436) (n := 2) dX9_decomposes_436 rfl ?_
    exact sm_loop (fun r437 hr437 => slX9_decomposes_437 P r437 hr437) _
  · skip
    refine sm_iload_n (pc := 144) (n := 2) dX9_decomposes_144 rfl ?_
    refine sm_istore_n (pc := 145) (n := 3) dX9_decomposes_145 rfl ?_
    exact sm_loop (fun r146 hr146 => slX9_decomposes_146 P r136 r146 hr136 hr146) _
noncomputable def bX9_decomposes_128 {d : Nat} (P : zP d) (r4 : zK d) : zK d := (xinc 2 1 r4)
set_option maxRecDepth 100000 in
set_option maxHeartbeats 4000000 in
theorem sbX9_decomposes_128 {d : Nat} [zGh] (P : zP d) (r4 : zK d) (hr4 : zSim X_X9_decomposes 2 P 4 r4) : zSim X_X9_decomposes 2 P 128 (bX9_decomposes_128 P r4) := by
  unfold bX9_decomposes_128
  refine sm_iinc (pc := 128) (n := 2) dX9_decomposes_128 zc_i_1 ?_
  refine sm_goto (pc := 131) (tgt := 4) dX9_decomposes_131 (by decide) ?_
  exact hr4
noncomputable def cX9_decomposes_119 {d : Nat} (P : zP d) (r26 : zK d) : zK d := (xinc 3 1 r26)
set_option maxRecDepth 100000 in
set_option maxHeartbeats 4000000 in
theorem scX9_decomposes_119 {d : Nat} [zGh] (P : zP d) (r26 : zK d) (hr26 : zSim X_X9_decomposes 2 P 26 r26) : zSim X_X9_decomposes 2 P 119 (cX9_decomposes_119 P r26) := by
  unfold cX9_decomposes_119
  refine sm_iinc (pc := 119) (n := 3) dX9_decomposes_119 zc_i_1 ?_
  refine sm_goto (pc := 122) (tgt := 26) dX9_decomposes_122 (by decide) ?_
  exact hr26
noncomputable def bX9_decomposes_82 {d : Nat} (P : zP d) (r26 : zK d) : zK d := (xald 0 (xgfR 25 39 (xpI 22 (xild 1 (xbin zmul (xpI 11 (xbin zadd (xild 3 (xbin zadd (xald 0 (xgfR 25 14 (xpI 11 (xild 3 (xbin zmul (xild 2 (xbin zadd (xald1 0 (xpI 32003 (xbinN zrem (xpI 32003 (xbin zadd (xpI 32003 (xbinN zrem (xast1 0 (fun v => v) (cX9_decomposes_119 P r26)))))))))))))))))))))))))
set_option maxRecDepth 100000 in
set_option maxHeartbeats 4000000 in
theorem sbX9_decomposes_82 {d : Nat} [zGh] (P : zP d) (r26 : zK d) (hr26 : zSim X_X9_decomposes 2 P 26 r26) : zSim X_X9_decomposes 2 P 82 (bX9_decomposes_82 P r26) := by
  unfold bX9_decomposes_82
  refine sm_aload_n (pc := 82) (n := 0) dX9_decomposes_82 rfl ?_
  refine gf_X9_102 (pc := 83) rfl dX9_decomposes_83 ?_
  refine sm_bipush (pc := 86) dX9_decomposes_86 zc_b_22 ?_
  refine sm_iload_n (pc := 88) (n := 1) dX9_decomposes_88 rfl ?_
  refine sm_imul (pc := 89) dX9_decomposes_89 ?_
  refine sm_bipush (pc := 90) dX9_decomposes_90 zc_b_11 ?_
  refine sm_iadd (pc := 92) dX9_decomposes_92 ?_
  refine sm_iload_n (pc := 93) (n := 3) dX9_decomposes_93 rfl ?_
  refine sm_iadd (pc := 94) dX9_decomposes_94 ?_
  refine sm_aload_n (pc := 95) (n := 0) dX9_decomposes_95 rfl ?_
  refine gf_X9_38 (pc := 96) rfl dX9_decomposes_96 ?_
  refine sm_bipush (pc := 99) dX9_decomposes_99 zc_b_11 ?_
  refine sm_iload_n (pc := 101) (n := 3) dX9_decomposes_101 rfl ?_
  refine sm_imul (pc := 102) dX9_decomposes_102 ?_
  refine sm_iload_n (pc := 103) (n := 2) dX9_decomposes_103 rfl ?_
  refine sm_iadd (pc := 104) dX9_decomposes_104 ?_
  refine sm_iaload (pc := 105) dX9_decomposes_105 ?_
  refine sm_sipush (pc := 106) dX9_decomposes_106 zc_s_32003 ?_
  refine sm_irem (pc := 109) dX9_decomposes_109 ?_
  refine sm_sipush (pc := 110) dX9_decomposes_110 zc_s_32003 ?_
  refine sm_iadd (pc := 113) dX9_decomposes_113 ?_
  refine sm_sipush (pc := 114) dX9_decomposes_114 zc_s_32003 ?_
  refine sm_irem (pc := 117) dX9_decomposes_117 ?_
  refine sm_iastore (pc := 118) dX9_decomposes_118 ?_
  exact scX9_decomposes_119 P r26 hr26
noncomputable def cX9_decomposes_66 {d : Nat} (P : zP d) (j82 : zK d) : zK d := (xild 2 (xbin zadd (xald1 0 (xpI 32003 (xbinN zrem (xpI 32003 (xbin zadd (xpI 32003 (xbinN zrem (xast1 0 (fun v => v) j82))))))))))
set_option maxRecDepth 100000 in
set_option maxHeartbeats 4000000 in
theorem scX9_decomposes_66 {d : Nat} [zGh] (P : zP d) (j82 : zK d) (hj82 : zSim X_X9_decomposes 2 P 82 j82) : zSim X_X9_decomposes 2 P 66 (cX9_decomposes_66 P j82) := by
  unfold cX9_decomposes_66
  refine sm_iload_n (pc := 66) (n := 2) dX9_decomposes_66 rfl ?_
  refine sm_iadd (pc := 67) dX9_decomposes_67 ?_
  refine sm_iaload (pc := 68) dX9_decomposes_68 ?_
  refine sm_sipush (pc := 69) dX9_decomposes_69 zc_s_32003 ?_
  refine sm_irem (pc := 72) dX9_decomposes_72 ?_
  refine sm_sipush (pc := 73) dX9_decomposes_73 zc_s_32003 ?_
  refine sm_iadd (pc := 76) dX9_decomposes_76 ?_
  refine sm_sipush (pc := 77) dX9_decomposes_77 zc_s_32003 ?_
  refine sm_irem (pc := 80) dX9_decomposes_80 ?_
  refine sm_iastore (pc := 81) dX9_decomposes_81 ?_
  exact hj82
noncomputable def lX9_decomposes_26 {d : Nat} (P : zP d) (j128 : zK d) (r26 : zK d) : zK d := (xild 3 (xald 0 (xgfI 25 2 (xcmp tge (xinc 1 1 j128) (xald 0 (xgfR 25 7 (xild 3 (xald1 1 (xjoin (bX9_decomposes_82 P r26) (fun j82 => (xif0 t0eq j82 (xald 0 (xgfR 25 39 (xpI 22 (xild 1 (xbin zmul (xald 0 (xgfR 25 10 (xild 3 (xald1 0 (xbin zadd (xald 0 (xgfR 25 37 (xpI 11 (xild 3 (xbin zmul (cX9_decomposes_66 P j82)))))))))))))))))))))))))))
set_option maxRecDepth 100000 in
set_option maxHeartbeats 4000000 in
theorem slX9_decomposes_26 {d : Nat} [zGh] (P : zP d) (j128 : zK d) (r26 : zK d) (hj128 : zSim X_X9_decomposes 2 P 128 j128) (hr26 : zSim X_X9_decomposes 2 P 26 r26) : zSim X_X9_decomposes 2 P 26 (lX9_decomposes_26 P j128 r26) := by
  unfold lX9_decomposes_26
  refine sm_iload_n (pc := 26) (n := 3) dX9_decomposes_26 rfl ?_
  refine sm_aload_n (pc := 27) (n := 0) dX9_decomposes_27 rfl ?_
  refine gf_X9_153 (pc := 28) rfl dX9_decomposes_28 ?_
  refine sm_icmp_ge (pc := 31) (tgt := 125) dX9_decomposes_31 (by decide) ?_ ?_
  · skip
    refine sm_iinc (pc := 125) (n := 1) dX9_decomposes_125 zc_i_1 ?_
    exact hj128
  · skip
    refine sm_aload_n (pc := 34) (n := 0) dX9_decomposes_34 rfl ?_
    refine gf_X9_22 (pc := 35) rfl dX9_decomposes_35 ?_
    refine sm_iload_n (pc := 38) (n := 3) dX9_decomposes_38 rfl ?_
    refine sm_baload (pc := 39) dX9_decomposes_39 ?_
    refine sm_join (pc := 40) (pc' := 82) (sbX9_decomposes_82 P r26 hr26) (fun j82 hj82 => ?_)
    refine sm_if_eq (pc := 40) (tgt := 82) dX9_decomposes_40 (by decide) ?_ ?_
    · skip
      exact hj82
    · skip
      refine sm_aload_n (pc := 43) (n := 0) dX9_decomposes_43 rfl ?_
      refine gf_X9_102 (pc := 44) rfl dX9_decomposes_44 ?_
      refine sm_bipush (pc := 47) dX9_decomposes_47 zc_b_22 ?_
      refine sm_iload_n (pc := 49) (n := 1) dX9_decomposes_49 rfl ?_
      refine sm_imul (pc := 50) dX9_decomposes_50 ?_
      refine sm_aload_n (pc := 51) (n := 0) dX9_decomposes_51 rfl ?_
      refine gf_X9_32 (pc := 52) rfl dX9_decomposes_52 ?_
      refine sm_iload_n (pc := 55) (n := 3) dX9_decomposes_55 rfl ?_
      refine sm_iaload (pc := 56) dX9_decomposes_56 ?_
      refine sm_iadd (pc := 57) dX9_decomposes_57 ?_
      refine sm_aload_n (pc := 58) (n := 0) dX9_decomposes_58 rfl ?_
      refine gf_X9_96 (pc := 59) rfl dX9_decomposes_59 ?_
      refine sm_bipush (pc := 62) dX9_decomposes_62 zc_b_11 ?_
      refine sm_iload_n (pc := 64) (n := 3) dX9_decomposes_64 rfl ?_
      refine sm_imul (pc := 65) dX9_decomposes_65 ?_
      exact scX9_decomposes_66 P j82 hj82
noncomputable def lX9_decomposes_4 {d : Nat} (P : zP d) (r4 : zK d) : zK d := (xild 2 (xald 0 (xgfI 25 2 (xcmp tge (xpI 0 (xist 2 (xloop (fun r136 => (lX9_decomposes_136 P r136)) 100000))) (xald 0 (xgfR 25 8 (xild 2 (xald1 1 (xjoin (bX9_decomposes_128 P r4) (fun j128 => (xif0 t0eq j128 (xpI 0 (xist 3 (xloop (fun r26 => (lX9_decomposes_26 P j128 r26)) 100000))))))))))))))
set_option maxRecDepth 100000 in
set_option maxHeartbeats 4000000 in
theorem slX9_decomposes_4 {d : Nat} [zGh] (P : zP d) (r4 : zK d) (hr4 : zSim X_X9_decomposes 2 P 4 r4) : zSim X_X9_decomposes 2 P 4 (lX9_decomposes_4 P r4) := by
  unfold lX9_decomposes_4
  refine sm_iload_n (pc := 4) (n := 2) dX9_decomposes_4 rfl ?_
  refine sm_aload_n (pc := 5) (n := 0) dX9_decomposes_5 rfl ?_
  refine gf_X9_153 (pc := 6) rfl dX9_decomposes_6 ?_
  refine sm_icmp_ge (pc := 9) (tgt := 134) dX9_decomposes_9 (by decide) ?_ ?_
  · skip
    refine sm_iconst (pc := 134) dX9_decomposes_134 zc_i_0 ?_
    refine sm_istore_n (pc := 135) (n := 2) dX9_decomposes_135 rfl ?_
    exact sm_loop (fun r136 hr136 => slX9_decomposes_136 P r136 hr136) _
  · skip
    refine sm_aload_n (pc := 12) (n := 0) dX9_decomposes_12 rfl ?_
    refine gf_X9_26 (pc := 13) rfl dX9_decomposes_13 ?_
    refine sm_iload_n (pc := 16) (n := 2) dX9_decomposes_16 rfl ?_
    refine sm_baload (pc := 17) dX9_decomposes_17 ?_
    refine sm_join (pc := 18) (pc' := 128) (sbX9_decomposes_128 P r4 hr4) (fun j128 hj128 => ?_)
    refine sm_if_ne (pc := 18) (tgt := 24) dX9_decomposes_18 (by decide) ?_ ?_
    · skip
      refine sm_iconst (pc := 24) dX9_decomposes_24 zc_i_0 ?_
      refine sm_istore_n (pc := 25) (n := 3) dX9_decomposes_25 rfl ?_
      exact sm_loop (fun r26 hr26 => slX9_decomposes_26 P j128 r26 hj128 hr26) _
    · skip
      refine sm_goto (pc := 21) (tgt := 128) dX9_decomposes_21 (by decide) ?_
      exact hj128
noncomputable def b_X9_decomposes {d : Nat} (P : zP d) : zK d := (xpI 0 (xist 1 (xpI 0 (xist 2 (xloop (fun r4 => (lX9_decomposes_4 P r4)) 100000)))))
set_option maxRecDepth 100000 in
set_option maxHeartbeats 4000000 in
theorem s_X9_decomposes {d : Nat} [zGh] (P : zP d) : zSim X_X9_decomposes 2 P 0 (b_X9_decomposes P) := by
  unfold b_X9_decomposes
  refine sm_iconst (pc := 0) dX9_decomposes_0 zc_i_0 ?_
  refine sm_istore_n (pc := 1) (n := 1) dX9_decomposes_1 rfl ?_
  refine sm_iconst (pc := 2) dX9_decomposes_2 zc_i_0 ?_
  refine sm_istore_n (pc := 3) (n := 2) dX9_decomposes_3 rfl ?_
  exact sm_loop (fun r4 hr4 => slX9_decomposes_4 P r4 hr4) _
noncomputable def f_X9_decomposes {d : Nat} : List zV → zH d → zP d → Bool := zfn 8 b_X9_decomposes
theorem m_X9_decomposes {d : Nat} : zMet (d := d) X_X9_decomposes yX9_decomposes 2 f_X9_decomposes := zmet_mk (X := X_X9_decomposes) (by decide) rfl rfl s_X9_decomposes

abbrev X_X9_lays : zM := (RX9, cX9_lays, 7, none, "lays")
noncomputable def lX9_lays_339 {d : Nat} (P : zP d) (r339 : zK d) : zK d := (xild 3 (xpI 66 (xcmp tge (xvret P) (xald 0 (xgfR 25 43 (xild 3 (xpL 0 (xlas (xinc 3 1 r339)))))))))
set_option maxRecDepth 100000 in
set_option maxHeartbeats 4000000 in
theorem slX9_lays_339 {d : Nat} [zGh] (P : zP d) (r339 : zK d) (hr339 : zSim X_X9_lays 20 P 339 r339) : zSim X_X9_lays 20 P 339 (lX9_lays_339 P r339) := by
  unfold lX9_lays_339
  refine sm_iload_n (pc := 339) (n := 3) dX9_lays_339 rfl ?_
  refine sm_bipush (pc := 340) dX9_lays_340 zc_b_66 ?_
  refine sm_icmp_ge (pc := 342) (tgt := 358) dX9_lays_342 (by decide) ?_ ?_
  · skip
    exact sm_vreturn (pc := 358) dX9_lays_358 rfl
  · skip
    refine sm_aload_n (pc := 345) (n := 0) dX9_lays_345 rfl ?_
    refine gf_X9_115 (pc := 346) rfl dX9_lays_346 ?_
    refine sm_iload_n (pc := 349) (n := 3) dX9_lays_349 rfl ?_
    refine sm_lconst (pc := 350) dX9_lays_350 zc_l_0 ?_
    refine sm_lastore (pc := 351) dX9_lays_351 ?_
    refine sm_iinc (pc := 352) (n := 3) dX9_lays_352 zc_i_1 ?_
    refine sm_goto (pc := 355) (tgt := 339) dX9_lays_355 (by decide) ?_
    exact hr339
noncomputable def bX9_lays_331 {d : Nat} (P : zP d) (r225 : zK d) : zK d := (xinc 3 1 r225)
set_option maxRecDepth 100000 in
set_option maxHeartbeats 4000000 in
theorem sbX9_lays_331 {d : Nat} [zGh] (P : zP d) (r225 : zK d) (hr225 : zSim X_X9_lays 20 P 225 r225) : zSim X_X9_lays 20 P 331 (bX9_lays_331 P r225) := by
  unfold bX9_lays_331
  refine sm_iinc (pc := 331) (n := 3) dX9_lays_331 zc_i_1 ?_
  refine sm_goto (pc := 334) (tgt := 225) dX9_lays_334 (by decide) ?_
  exact hr225
noncomputable def cX9_lays_301 {d : Nat} (P : zP d) (r260 : zK d) : zK d := (xbin zmul (xbin zadd (xist 5 (xinc 6 1 r260))))
set_option maxRecDepth 100000 in
set_option maxHeartbeats 4000000 in
theorem scX9_lays_301 {d : Nat} [zGh] (P : zP d) (r260 : zK d) (hr260 : zSim X_X9_lays 20 P 260 r260) : zSim X_X9_lays 20 P 301 (cX9_lays_301 P r260) := by
  unfold cX9_lays_301
  refine sm_imul (pc := 301) dX9_lays_301 ?_
  refine sm_iadd (pc := 302) dX9_lays_302 ?_
  refine sm_istore (pc := 303) (n := 5) dX9_lays_303 ?_
  refine sm_iinc (pc := 305) (n := 6) dX9_lays_305 zc_i_1 ?_
  refine sm_goto (pc := 308) (tgt := 260) dX9_lays_308 (by decide) ?_
  exact hr260
noncomputable def lX9_lays_260 {d : Nat} (P : zP d) (r236 : zK d) (r260 : zK d) : zK d := (xild 6 (xald 0 (xgfI 25 2 (xcmp tge (xald 0 (xgfR 25 40 (xpI 11 (xild 3 (xbin zmul (xild 4 (xbin zadd (xild 5 (xast1 0 (fun v => v) (xinc 4 1 r236)))))))))) (xild 5 (xald 0 (xgfR 25 38 (xpI 11 (xild 6 (xbin zmul (xald 0 (xgfR 25 10 (xild 3 (xald1 0 (xbin zadd (xald1 0 (xald 0 (xgfR 25 14 (xpI 11 (xild 6 (xbin zmul (xild 4 (xbin zadd (xald1 0 (cX9_lays_301 P r260)))))))))))))))))))))))))
set_option maxRecDepth 100000 in
set_option maxHeartbeats 4000000 in
theorem slX9_lays_260 {d : Nat} [zGh] (P : zP d) (r236 : zK d) (r260 : zK d) (hr236 : zSim X_X9_lays 20 P 236 r236) (hr260 : zSim X_X9_lays 20 P 260 r260) : zSim X_X9_lays 20 P 260 (lX9_lays_260 P r236 r260) := by
  unfold lX9_lays_260
  refine sm_iload (pc := 260) (n := 6) dX9_lays_260 ?_
  refine sm_aload_n (pc := 262) (n := 0) dX9_lays_262 rfl ?_
  refine gf_X9_153 (pc := 263) rfl dX9_lays_263 ?_
  refine sm_icmp_ge (pc := 266) (tgt := 311) dX9_lays_266 (by decide) ?_ ?_
  · skip
    refine sm_aload_n (pc := 311) (n := 0) dX9_lays_311 rfl ?_
    refine gf_X9_105 (pc := 312) rfl dX9_lays_312 ?_
    refine sm_bipush (pc := 315) dX9_lays_315 zc_b_11 ?_
    refine sm_iload_n (pc := 317) (n := 3) dX9_lays_317 rfl ?_
    refine sm_imul (pc := 318) dX9_lays_318 ?_
    refine sm_iload (pc := 319) (n := 4) dX9_lays_319 ?_
    refine sm_iadd (pc := 321) dX9_lays_321 ?_
    refine sm_iload (pc := 322) (n := 5) dX9_lays_322 ?_
    refine sm_iastore (pc := 324) dX9_lays_324 ?_
    refine sm_iinc (pc := 325) (n := 4) dX9_lays_325 zc_i_1 ?_
    refine sm_goto (pc := 328) (tgt := 236) dX9_lays_328 (by decide) ?_
    exact hr236
  · skip
    refine sm_iload (pc := 269) (n := 5) dX9_lays_269 ?_
    refine sm_aload_n (pc := 271) (n := 0) dX9_lays_271 rfl ?_
    refine gf_X9_99 (pc := 272) rfl dX9_lays_272 ?_
    refine sm_bipush (pc := 275) dX9_lays_275 zc_b_11 ?_
    refine sm_iload (pc := 277) (n := 6) dX9_lays_277 ?_
    refine sm_imul (pc := 279) dX9_lays_279 ?_
    refine sm_aload_n (pc := 280) (n := 0) dX9_lays_280 rfl ?_
    refine gf_X9_32 (pc := 281) rfl dX9_lays_281 ?_
    refine sm_iload_n (pc := 284) (n := 3) dX9_lays_284 rfl ?_
    refine sm_iaload (pc := 285) dX9_lays_285 ?_
    refine sm_iadd (pc := 286) dX9_lays_286 ?_
    refine sm_iaload (pc := 287) dX9_lays_287 ?_
    refine sm_aload_n (pc := 288) (n := 0) dX9_lays_288 rfl ?_
    refine gf_X9_38 (pc := 289) rfl dX9_lays_289 ?_
    refine sm_bipush (pc := 292) dX9_lays_292 zc_b_11 ?_
    refine sm_iload (pc := 294) (n := 6) dX9_lays_294 ?_
    refine sm_imul (pc := 296) dX9_lays_296 ?_
    refine sm_iload (pc := 297) (n := 4) dX9_lays_297 ?_
    refine sm_iadd (pc := 299) dX9_lays_299 ?_
    refine sm_iaload (pc := 300) dX9_lays_300 ?_
    exact scX9_lays_301 P r260 hr260
noncomputable def lX9_lays_236 {d : Nat} (P : zP d) (r225 : zK d) (r236 : zK d) : zK d := (xild 4 (xald 0 (xgfI 25 2 (xjoin (bX9_lays_331 P r225) (fun j331 => (xcmp tge j331 (xald 0 (xgfR 25 7 (xild 3 (xald1 1 (xif0 t0eq j331 (xpI 0 (xist 5 (xpI 0 (xist 6 (xloop (fun r260 => (lX9_lays_260 P r236 r260)) 100000))))))))))))))))
set_option maxRecDepth 100000 in
set_option maxHeartbeats 4000000 in
theorem slX9_lays_236 {d : Nat} [zGh] (P : zP d) (r225 : zK d) (r236 : zK d) (hr225 : zSim X_X9_lays 20 P 225 r225) (hr236 : zSim X_X9_lays 20 P 236 r236) : zSim X_X9_lays 20 P 236 (lX9_lays_236 P r225 r236) := by
  unfold lX9_lays_236
  refine sm_iload (pc := 236) (n := 4) dX9_lays_236 ?_
  refine sm_aload_n (pc := 238) (n := 0) dX9_lays_238 rfl ?_
  refine gf_X9_153 (pc := 239) rfl dX9_lays_239 ?_
  refine sm_join (pc := 242) (pc' := 331) (sbX9_lays_331 P r225 hr225) (fun j331 hj331 => ?_)
  refine sm_icmp_ge (pc := 242) (tgt := 331) dX9_lays_242 (by decide) ?_ ?_
  · skip
    exact hj331
  · skip
    refine sm_aload_n (pc := 245) (n := 0) dX9_lays_245 rfl ?_
    refine gf_X9_22 (pc := 246) rfl dX9_lays_246 ?_
    refine sm_iload_n (pc := 249) (n := 3) dX9_lays_249 rfl ?_
    refine sm_baload (pc := 250) dX9_lays_250 ?_
    refine sm_if_eq (pc := 251) (tgt := 331) dX9_lays_251 (by decide) ?_ ?_
    · skip
      exact hj331
    · skip
      refine sm_iconst (pc := 254) dX9_lays_254 zc_i_0 ?_
      refine sm_istore (pc := 255) (n := 5) dX9_lays_255 ?_
      refine sm_iconst (pc := 257) dX9_lays_257 zc_i_0 ?_
      refine sm_istore (pc := 258) (n := 6) dX9_lays_258 ?_
      exact sm_loop (fun r260 hr260 => slX9_lays_260 P r236 r260 hr236 hr260) _
noncomputable def lX9_lays_225 {d : Nat} (P : zP d) (r225 : zK d) : zK d := (xild 3 (xald 0 (xgfI 25 2 (xcmp tge (xpI 0 (xist 3 (xloop (fun r339 => (lX9_lays_339 P r339)) 100000))) (xpI 0 (xist 4 (xloop (fun r236 => (lX9_lays_236 P r225 r236)) 100000)))))))
set_option maxRecDepth 100000 in
set_option maxHeartbeats 4000000 in
theorem slX9_lays_225 {d : Nat} [zGh] (P : zP d) (r225 : zK d) (hr225 : zSim X_X9_lays 20 P 225 r225) : zSim X_X9_lays 20 P 225 (lX9_lays_225 P r225) := by
  unfold lX9_lays_225
  refine sm_iload_n (pc := 225) (n := 3) dX9_lays_225 rfl ?_
  refine sm_aload_n (pc := 226) (n := 0) dX9_lays_226 rfl ?_
  refine gf_X9_153 (pc := 227) rfl dX9_lays_227 ?_
  refine sm_icmp_ge (pc := 230) (tgt := 337) dX9_lays_230 (by decide) ?_ ?_
  · skip
    refine sm_iconst (pc := 337) dX9_lays_337 zc_i_0 ?_
    refine sm_istore_n (pc := 338) (n := 3) dX9_lays_338 rfl ?_
    exact sm_loop (fun r339 hr339 => slX9_lays_339 P r339 hr339) _
  · skip
    refine sm_iconst (pc := 233) dX9_lays_233 zc_i_0 ?_
    refine sm_istore (pc := 234) (n := 4) dX9_lays_234 ?_
    exact sm_loop (fun r236 hr236 => slX9_lays_236 P r225 r236 hr225 hr236) _
noncomputable def bX9_lays_213 {d : Nat} (P : zP d) (r65 : zK d) : zK d := (xinc 3 1 r65)
set_option maxRecDepth 100000 in
set_option maxHeartbeats 4000000 in
theorem sbX9_lays_213 {d : Nat} [zGh] (P : zP d) (r65 : zK d) (hr65 : zSim X_X9_lays 20 P 65 r65) : zSim X_X9_lays 20 P 213 (bX9_lays_213 P r65) := by
  unfold bX9_lays_213
  refine sm_iinc (pc := 213) (n := 3) dX9_lays_213 zc_i_1 ?_
  refine sm_goto (pc := 216) (tgt := 65) dX9_lays_216 (by decide) ?_
  exact hr65
noncomputable def bX9_lays_207 {d : Nat} (P : zP d) (r161 : zK d) : zK d := (xinc 4 1 r161)
set_option maxRecDepth 100000 in
set_option maxHeartbeats 4000000 in
theorem sbX9_lays_207 {d : Nat} [zGh] (P : zP d) (r161 : zK d) (hr161 : zSim X_X9_lays 20 P 161 r161) : zSim X_X9_lays 20 P 207 (bX9_lays_207 P r161) := by
  unfold bX9_lays_207
  refine sm_iinc (pc := 207) (n := 4) dX9_lays_207 zc_i_1 ?_
  refine sm_goto (pc := 210) (tgt := 161) dX9_lays_210 (by decide) ?_
  exact hr161
noncomputable def cX9_lays_206 {d : Nat} (P : zP d) (j207 : zK d) : zK d := (xast1 0 (fun v => v) j207)
set_option maxRecDepth 100000 in
set_option maxHeartbeats 4000000 in
theorem scX9_lays_206 {d : Nat} [zGh] (P : zP d) (j207 : zK d) (hj207 : zSim X_X9_lays 20 P 207 j207) : zSim X_X9_lays 20 P 206 (cX9_lays_206 P j207) := by
  unfold cX9_lays_206
  refine sm_iastore (pc := 206) dX9_lays_206 ?_
  exact hj207
noncomputable def lX9_lays_161 {d : Nat} (P : zP d) (r161 : zK d) (r65 : zK d) : zK d := (xild 4 (xald 0 (xgfI 25 2 (xjoin (bX9_lays_213 P r65) (fun j213 => (xcmp tge j213 (xald 0 (xgfR 25 7 (xild 3 (xald1 1 (xif0 t0eq j213 (xald 0 (xgfR 25 8 (xild 4 (xald1 1 (xjoin (bX9_lays_207 P r161) (fun j207 => (xif0 t0eq j207 (xald 0 (xgfR 25 37 (xpI 11 (xild 3 (xbin zmul (xild 4 (xbin zadd (xald 0 (xild 4 (xcV 25 2 0 0 f_X9_modularOf (cX9_lays_206 P j207)))))))))))))))))))))))))))))
set_option maxRecDepth 100000 in
set_option maxHeartbeats 4000000 in
theorem slX9_lays_161 {d : Nat} [zGh] (P : zP d) (r161 : zK d) (r65 : zK d) (hr161 : zSim X_X9_lays 20 P 161 r161) (hr65 : zSim X_X9_lays 20 P 65 r65) : zSim X_X9_lays 20 P 161 (lX9_lays_161 P r161 r65) := by
  unfold lX9_lays_161
  refine sm_iload (pc := 161) (n := 4) dX9_lays_161 ?_
  refine sm_aload_n (pc := 163) (n := 0) dX9_lays_163 rfl ?_
  refine gf_X9_153 (pc := 164) rfl dX9_lays_164 ?_
  refine sm_join (pc := 167) (pc' := 213) (sbX9_lays_213 P r65 hr65) (fun j213 hj213 => ?_)
  refine sm_icmp_ge (pc := 167) (tgt := 213) dX9_lays_167 (by decide) ?_ ?_
  · skip
    exact hj213
  · skip
    refine sm_aload_n (pc := 170) (n := 0) dX9_lays_170 rfl ?_
    refine gf_X9_22 (pc := 171) rfl dX9_lays_171 ?_
    refine sm_iload_n (pc := 174) (n := 3) dX9_lays_174 rfl ?_
    refine sm_baload (pc := 175) dX9_lays_175 ?_
    refine sm_if_eq (pc := 176) (tgt := 213) dX9_lays_176 (by decide) ?_ ?_
    · skip
      exact hj213
    · skip
      refine sm_aload_n (pc := 179) (n := 0) dX9_lays_179 rfl ?_
      refine gf_X9_26 (pc := 180) rfl dX9_lays_180 ?_
      refine sm_iload (pc := 183) (n := 4) dX9_lays_183 ?_
      refine sm_baload (pc := 185) dX9_lays_185 ?_
      refine sm_join (pc := 186) (pc' := 207) (sbX9_lays_207 P r161 hr161) (fun j207 hj207 => ?_)
      refine sm_if_eq (pc := 186) (tgt := 207) dX9_lays_186 (by decide) ?_ ?_
      · skip
        exact hj207
      · skip
        refine sm_aload_n (pc := 189) (n := 0) dX9_lays_189 rfl ?_
        refine gf_X9_96 (pc := 190) rfl dX9_lays_190 ?_
        refine sm_bipush (pc := 193) dX9_lays_193 zc_b_11 ?_
        refine sm_iload_n (pc := 195) (n := 3) dX9_lays_195 rfl ?_
        refine sm_imul (pc := 196) dX9_lays_196 ?_
        refine sm_iload (pc := 197) (n := 4) dX9_lays_197 ?_
        refine sm_iadd (pc := 199) dX9_lays_199 ?_
        refine sm_aload_n (pc := 200) (n := 0) dX9_lays_200 rfl ?_
        refine sm_iload (pc := 201) (n := 4) dX9_lays_201 ?_
        refine sm_cV (pc := 203) (ci := 9) (n := 2) (mc := 0) (ms := 0) rfl m_X9_modularOf (cr_X9_275 (X := X_X9_lays) (fr := 20) (frc := 19) (pc := 203) (mc := 0) (ms := 0) rfl (by decide) dX9_lays_203) ?_
        exact scX9_lays_206 P j207 hj207
noncomputable def cX9_lays_149 {d : Nat} (P : zP d) (r65 : zK d) : zK d := (xild 3 (xald1 0 (xbin zsub (xast1 0 (fun v => v) (xald 0 (xild 3 (xcV 25 2 0 0 f_X9_forms (xpI 0 (xist 4 (xloop (fun r161 => (lX9_lays_161 P r161 r65)) 100000))))))))))
set_option maxRecDepth 100000 in
set_option maxHeartbeats 4000000 in
theorem scX9_lays_149 {d : Nat} [zGh] (P : zP d) (r65 : zK d) (hr65 : zSim X_X9_lays 20 P 65 r65) : zSim X_X9_lays 20 P 149 (cX9_lays_149 P r65) := by
  unfold cX9_lays_149
  refine sm_iload_n (pc := 149) (n := 3) dX9_lays_149 rfl ?_
  refine sm_iaload (pc := 150) dX9_lays_150 ?_
  refine sm_isub (pc := 151) dX9_lays_151 ?_
  refine sm_iastore (pc := 152) dX9_lays_152 ?_
  refine sm_aload_n (pc := 153) (n := 0) dX9_lays_153 rfl ?_
  refine sm_iload_n (pc := 154) (n := 3) dX9_lays_154 rfl ?_
  refine sm_cV (pc := 155) (ci := 9) (n := 2) (mc := 0) (ms := 0) rfl m_X9_forms (cr_X9_272 (X := X_X9_lays) (fr := 20) (frc := 19) (pc := 155) (mc := 0) (ms := 0) rfl (by decide) dX9_lays_155) ?_
  refine sm_iconst (pc := 158) dX9_lays_158 zc_i_0 ?_
  refine sm_istore (pc := 159) (n := 4) dX9_lays_159 ?_
  exact sm_loop (fun r161 hr161 => slX9_lays_161 P r161 r65 hr161 hr65) _
noncomputable def lX9_lays_76 {d : Nat} (P : zP d) (r65 : zK d) (r76 : zK d) : zK d := (xild 4 (xald 0 (xgfI 25 2 (xcmp tge (xald 0 (xild 3 (xpfI 25 25 (xald 0 (xgfR 25 20 (xild 3 (xald 0 (xgfI 25 23 (xast1 0 (fun v => v) (xald 0 (xpI 0 (xpI 0 (xcV 25 3 0 0 f_X9_fills (xald 0 (xgfR 25 21 (xild 3 (xald 0 (xgfI 25 23 (xald 0 (xgfR 25 20 (cX9_lays_149 P r65))))))))))))))))))))) (xald 0 (xgfR 25 14 (xpI 11 (xild 3 (xbin zmul (xild 4 (xbin zadd (xald 0 (xald 0 (xild 3 (xcV 25 2 0 0 f_X9_beadsOf (xild 4 (xpI 0 (xcV 25 4 0 0 f_X9_charOf (xast1 0 (fun v => v) (xinc 4 1 r76))))))))))))))))))))
set_option maxRecDepth 100000 in
set_option maxHeartbeats 4000000 in
theorem slX9_lays_76 {d : Nat} [zGh] (P : zP d) (r65 : zK d) (r76 : zK d) (hr65 : zSim X_X9_lays 20 P 65 r65) (hr76 : zSim X_X9_lays 20 P 76 r76) : zSim X_X9_lays 20 P 76 (lX9_lays_76 P r65 r76) := by
  unfold lX9_lays_76
  refine sm_iload (pc := 76) (n := 4) dX9_lays_76 ?_
  refine sm_aload_n (pc := 78) (n := 0) dX9_lays_78 rfl ?_
  refine gf_X9_153 (pc := 79) rfl dX9_lays_79 ?_
  refine sm_icmp_ge (pc := 82) (tgt := 115) dX9_lays_82 (by decide) ?_ ?_
  · skip
    refine sm_aload_n (pc := 115) (n := 0) dX9_lays_115 rfl ?_
    refine sm_iload_n (pc := 116) (n := 3) dX9_lays_116 rfl ?_
    refine pf_X9_205 (pc := 117) rfl dX9_lays_117 ?_
    refine sm_aload_n (pc := 120) (n := 0) dX9_lays_120 rfl ?_
    refine gf_X9_53 (pc := 121) rfl dX9_lays_121 ?_
    refine sm_iload_n (pc := 124) (n := 3) dX9_lays_124 rfl ?_
    refine sm_aload_n (pc := 125) (n := 0) dX9_lays_125 rfl ?_
    refine gf_X9_208 (pc := 126) rfl dX9_lays_126 ?_
    refine sm_iastore (pc := 129) dX9_lays_129 ?_
    refine sm_aload_n (pc := 130) (n := 0) dX9_lays_130 rfl ?_
    refine sm_iconst (pc := 131) dX9_lays_131 zc_i_0 ?_
    refine sm_iconst (pc := 132) dX9_lays_132 zc_i_0 ?_
    refine sm_cV (pc := 133) (ci := 9) (n := 3) (mc := 0) (ms := 0) rfl m_X9_fills (cr_X9_217 (X := X_X9_lays) (fr := 20) (frc := 10) (pc := 133) (mc := 0) (ms := 0) rfl (by decide) dX9_lays_133) ?_
    refine sm_aload_n (pc := 136) (n := 0) dX9_lays_136 rfl ?_
    refine gf_X9_56 (pc := 137) rfl dX9_lays_137 ?_
    refine sm_iload_n (pc := 140) (n := 3) dX9_lays_140 rfl ?_
    refine sm_aload_n (pc := 141) (n := 0) dX9_lays_141 rfl ?_
    refine gf_X9_208 (pc := 142) rfl dX9_lays_142 ?_
    refine sm_aload_n (pc := 145) (n := 0) dX9_lays_145 rfl ?_
    refine gf_X9_53 (pc := 146) rfl dX9_lays_146 ?_
    exact scX9_lays_149 P r65 hr65
  · skip
    refine sm_aload_n (pc := 85) (n := 0) dX9_lays_85 rfl ?_
    refine gf_X9_38 (pc := 86) rfl dX9_lays_86 ?_
    refine sm_bipush (pc := 89) dX9_lays_89 zc_b_11 ?_
    refine sm_iload_n (pc := 91) (n := 3) dX9_lays_91 rfl ?_
    refine sm_imul (pc := 92) dX9_lays_92 ?_
    refine sm_iload (pc := 93) (n := 4) dX9_lays_93 ?_
    refine sm_iadd (pc := 95) dX9_lays_95 ?_
    refine sm_aload_n (pc := 96) (n := 0) dX9_lays_96 rfl ?_
    refine sm_aload_n (pc := 97) (n := 0) dX9_lays_97 rfl ?_
    refine sm_iload_n (pc := 98) (n := 3) dX9_lays_98 rfl ?_
    refine sm_cV (pc := 99) (ci := 9) (n := 2) (mc := 0) (ms := 0) rfl m_X9_beadsOf (cr_X9_202 (X := X_X9_lays) (fr := 20) (frc := 2) (pc := 99) (mc := 0) (ms := 0) rfl (by decide) dX9_lays_99) ?_
    refine sm_iload (pc := 102) (n := 4) dX9_lays_102 ?_
    refine sm_iconst (pc := 104) dX9_lays_104 zc_i_0 ?_
    refine sm_cV (pc := 105) (ci := 9) (n := 4) (mc := 0) (ms := 0) rfl m_X9_charOf (cr_X9_191 (X := X_X9_lays) (fr := 20) (frc := 9) (pc := 105) (mc := 0) (ms := 0) rfl (by decide) dX9_lays_105) ?_
    refine sm_iastore (pc := 108) dX9_lays_108 ?_
    refine sm_iinc (pc := 109) (n := 4) dX9_lays_109 zc_i_1 ?_
    refine sm_goto (pc := 112) (tgt := 76) dX9_lays_112 (by decide) ?_
    exact hr76
noncomputable def lX9_lays_65 {d : Nat} (P : zP d) (r65 : zK d) : zK d := (xild 3 (xald 0 (xgfI 25 2 (xcmp tge (xald 0 (xcV 25 1 0 0 f_X9_decomposes (xpI 0 (xist 3 (xloop (fun r225 => (lX9_lays_225 P r225)) 100000))))) (xpI 0 (xist 4 (xloop (fun r76 => (lX9_lays_76 P r65 r76)) 100000)))))))
set_option maxRecDepth 100000 in
set_option maxHeartbeats 4000000 in
theorem slX9_lays_65 {d : Nat} [zGh] (P : zP d) (r65 : zK d) (hr65 : zSim X_X9_lays 20 P 65 r65) : zSim X_X9_lays 20 P 65 (lX9_lays_65 P r65) := by
  unfold lX9_lays_65
  refine sm_iload_n (pc := 65) (n := 3) dX9_lays_65 rfl ?_
  refine sm_aload_n (pc := 66) (n := 0) dX9_lays_66 rfl ?_
  refine gf_X9_153 (pc := 67) rfl dX9_lays_67 ?_
  refine sm_icmp_ge (pc := 70) (tgt := 219) dX9_lays_70 (by decide) ?_ ?_
  · skip
    refine sm_aload_n (pc := 219) (n := 0) dX9_lays_219 rfl ?_
    refine sm_cV (pc := 220) (ci := 9) (n := 1) (mc := 0) (ms := 0) rfl m_X9_decomposes (cr_X9_278 (X := X_X9_lays) (fr := 20) (frc := 2) (pc := 220) (mc := 0) (ms := 0) rfl (by decide) dX9_lays_220) ?_
    refine sm_iconst (pc := 223) dX9_lays_223 zc_i_0 ?_
    refine sm_istore_n (pc := 224) (n := 3) dX9_lays_224 rfl ?_
    exact sm_loop (fun r225 hr225 => slX9_lays_225 P r225 hr225) _
  · skip
    refine sm_iconst (pc := 73) dX9_lays_73 zc_i_0 ?_
    refine sm_istore (pc := 74) (n := 4) dX9_lays_74 ?_
    exact sm_loop (fun r76 hr76 => slX9_lays_76 P r65 r76 hr65 hr76) _
noncomputable def lX9_lays_43 {d : Nat} (P : zP d) (r43 : zK d) : zK d := (xild 3 (xpI 242 (xcmp tge (xpI 0 (xist 3 (xloop (fun r65 => (lX9_lays_65 P r65)) 100000))) (xald 0 (xgfR 25 39 (xild 3 (xpI 0 (xast1 0 (fun v => v) (xinc 3 1 r43)))))))))
set_option maxRecDepth 100000 in
set_option maxHeartbeats 4000000 in
theorem slX9_lays_43 {d : Nat} [zGh] (P : zP d) (r43 : zK d) (hr43 : zSim X_X9_lays 20 P 43 r43) : zSim X_X9_lays 20 P 43 (lX9_lays_43 P r43) := by
  unfold lX9_lays_43
  refine sm_iload_n (pc := 43) (n := 3) dX9_lays_43 rfl ?_
  refine sm_sipush (pc := 44) dX9_lays_44 zc_s_242 ?_
  refine sm_icmp_ge (pc := 47) (tgt := 63) dX9_lays_47 (by decide) ?_ ?_
  · skip
    refine sm_iconst (pc := 63) dX9_lays_63 zc_i_0 ?_
    refine sm_istore_n (pc := 64) (n := 3) dX9_lays_64 rfl ?_
    exact sm_loop (fun r65 hr65 => slX9_lays_65 P r65 hr65) _
  · skip
    refine sm_aload_n (pc := 50) (n := 0) dX9_lays_50 rfl ?_
    refine gf_X9_102 (pc := 51) rfl dX9_lays_51 ?_
    refine sm_iload_n (pc := 54) (n := 3) dX9_lays_54 rfl ?_
    refine sm_iconst (pc := 55) dX9_lays_55 zc_i_0 ?_
    refine sm_iastore (pc := 56) dX9_lays_56 ?_
    refine sm_iinc (pc := 57) (n := 3) dX9_lays_57 zc_i_1 ?_
    refine sm_goto (pc := 60) (tgt := 43) dX9_lays_60 (by decide) ?_
    exact hr43
noncomputable def cX9_lays_42 {d : Nat} (P : zP d) : zK d := (xist 3 (xloop (fun r43 => (lX9_lays_43 P r43)) 100000))
set_option maxRecDepth 100000 in
set_option maxHeartbeats 4000000 in
theorem scX9_lays_42 {d : Nat} [zGh] (P : zP d) : zSim X_X9_lays 20 P 42 (cX9_lays_42 P) := by
  unfold cX9_lays_42
  refine sm_istore_n (pc := 42) (n := 3) dX9_lays_42 rfl ?_
  exact sm_loop (fun r43 hr43 => slX9_lays_43 P r43 hr43) _
noncomputable def b_X9_lays {d : Nat} (P : zP d) : zK d := (xald 0 (xild 1 (xpfI 25 0 (xald 0 (xild 2 (xpfI 25 1 (xald 0 (xpI 0 (xpfI 25 2 (xald 0 (xpI 0 (xald 0 (xgfI 25 0 (xald 0 (xgfI 25 0 (xcV 25 4 0 0 f_X9_grows (xald 0 (xcV 25 1 0 0 f_X9_classes (xald 0 (xcV 25 1 0 0 f_X9_cores (xald 0 (xpI 0 (xpfI 25 23 (xpI 0 (cX9_lays_42 P)))))))))))))))))))))))))
set_option maxRecDepth 100000 in
set_option maxHeartbeats 4000000 in
theorem s_X9_lays {d : Nat} [zGh] (P : zP d) : zSim X_X9_lays 20 P 0 (b_X9_lays P) := by
  unfold b_X9_lays
  refine sm_aload_n (pc := 0) (n := 0) dX9_lays_0 rfl ?_
  refine sm_iload_n (pc := 1) (n := 1) dX9_lays_1 rfl ?_
  refine pf_X9_169 (pc := 2) rfl dX9_lays_2 ?_
  refine sm_aload_n (pc := 5) (n := 0) dX9_lays_5 rfl ?_
  refine sm_iload_n (pc := 6) (n := 2) dX9_lays_6 rfl ?_
  refine pf_X9_184 (pc := 7) rfl dX9_lays_7 ?_
  refine sm_aload_n (pc := 10) (n := 0) dX9_lays_10 rfl ?_
  refine sm_iconst (pc := 11) dX9_lays_11 zc_i_0 ?_
  refine pf_X9_153 (pc := 12) rfl dX9_lays_12 ?_
  refine sm_aload_n (pc := 15) (n := 0) dX9_lays_15 rfl ?_
  refine sm_iconst (pc := 16) dX9_lays_16 zc_i_0 ?_
  refine sm_aload_n (pc := 17) (n := 0) dX9_lays_17 rfl ?_
  refine gf_X9_169 (pc := 18) rfl dX9_lays_18 ?_
  refine sm_aload_n (pc := 21) (n := 0) dX9_lays_21 rfl ?_
  refine gf_X9_169 (pc := 22) rfl dX9_lays_22 ?_
  refine sm_cV (pc := 25) (ci := 9) (n := 4) (mc := 0) (ms := 0) rfl m_X9_grows (cr_X9_162 (X := X_X9_lays) (fr := 20) (frc := 9) (pc := 25) (mc := 0) (ms := 0) rfl (by decide) dX9_lays_25) ?_
  refine sm_aload_n (pc := 28) (n := 0) dX9_lays_28 rfl ?_
  refine sm_cV (pc := 29) (ci := 9) (n := 1) (mc := 0) (ms := 0) rfl m_X9_classes (cr_X9_266 (X := X_X9_lays) (fr := 20) (frc := 2) (pc := 29) (mc := 0) (ms := 0) rfl (by decide) dX9_lays_29) ?_
  refine sm_aload_n (pc := 32) (n := 0) dX9_lays_32 rfl ?_
  refine sm_cV (pc := 33) (ci := 9) (n := 1) (mc := 0) (ms := 0) rfl m_X9_cores (cr_X9_269 (X := X_X9_lays) (fr := 20) (frc := 3) (pc := 33) (mc := 0) (ms := 0) rfl (by decide) dX9_lays_33) ?_
  refine sm_aload_n (pc := 36) (n := 0) dX9_lays_36 rfl ?_
  refine sm_iconst (pc := 37) dX9_lays_37 zc_i_0 ?_
  refine pf_X9_208 (pc := 38) rfl dX9_lays_38 ?_
  refine sm_iconst (pc := 41) dX9_lays_41 zc_i_0 ?_
  exact scX9_lays_42 P
noncomputable def f_X9_lays {d : Nat} : List zV → zH d → zP d → Bool := zfn 7 b_X9_lays
theorem m_X9_lays {d : Nat} : zMet (d := d) X_X9_lays yX9_lays 20 f_X9_lays := zmet_mk (X := X_X9_lays) (by decide) rfl rfl s_X9_lays

abbrev X_X9_init : zM := (RX9, cX9_init, 1, none, "<init>")
noncomputable def cX9_init_342 {d : Nat} (P : zP d) : zK d := (xpfR 25 57 (xald 0 (xpI 11 (xnwa 2 (xpfR 25 58 (xald 0 (xpI 6 (xnwa 0 (xpfR 25 60 (xald 0 (xpI 6 (xnwa 0 (xpfR 25 62 (xald 0 (xpI 3 (xpI 2 (xcV 25 3 0 0 f_X9_lays (xvret P))))))))))))))))))
set_option maxRecDepth 100000 in
set_option maxHeartbeats 4000000 in
theorem scX9_init_342 {d : Nat} [zGh] (P : zP d) : zSim X_X9_init 21 P 342 (cX9_init_342 P) := by
  unfold cX9_init_342
  refine pf_X9_137 (pc := 342) rfl rfl dX9_init_342 ?_
  refine sm_aload_n (pc := 345) (n := 0) dX9_init_345 rfl ?_
  refine sm_bipush (pc := 346) dX9_init_346 zc_b_11 ?_
  refine sm_newJ (pc := 348) dX9_init_348 wd_45 ?_
  refine pf_X9_140 (pc := 350) rfl rfl dX9_init_350 ?_
  refine sm_aload_n (pc := 353) (n := 0) dX9_init_353 rfl ?_
  refine sm_bipush (pc := 354) dX9_init_354 zc_b_6 ?_
  refine sm_newI (pc := 356) dX9_init_356 wd_46 ?_
  refine pf_X9_143 (pc := 358) rfl rfl dX9_init_358 ?_
  refine sm_aload_n (pc := 361) (n := 0) dX9_init_361 rfl ?_
  refine sm_bipush (pc := 362) dX9_init_362 zc_b_6 ?_
  refine sm_newI (pc := 364) dX9_init_364 wd_46 ?_
  refine pf_X9_146 (pc := 366) rfl rfl dX9_init_366 ?_
  refine sm_aload_n (pc := 369) (n := 0) dX9_init_369 rfl ?_
  refine sm_iconst (pc := 370) dX9_init_370 zc_i_3 ?_
  refine sm_iconst (pc := 371) dX9_init_371 zc_i_2 ?_
  refine sm_cV (pc := 372) (ci := 9) (n := 3) (mc := 0) (ms := 0) rfl m_X9_lays (cr_X9_149 (X := X_X9_init) (fr := 21) (frc := 20) (pc := 372) (mc := 0) (ms := 0) rfl (by decide) dX9_init_372) ?_
  exact sm_vreturn (pc := 375) dX9_init_375 rfl
noncomputable def cX9_init_294 {d : Nat} (P : zP d) : zK d := (xnwa 2 (xpfR 25 44 (xald 0 (xpI 200 (xnwa 0 (xpfR 25 45 (xald 0 (xpI 4294967295 (xpfI 25 49 (xald 0 (xpI 20 (xnwa 0 (xpfR 25 51 (xald 0 (xpI 20 (xnwa 0 (xpfR 25 52 (xald 0 (xpI 55 (xnwa 2 (xpfR 25 56 (xald 0 (xpI 55 (xnwa 2 (cX9_init_342 P)))))))))))))))))))))))))
set_option maxRecDepth 100000 in
set_option maxHeartbeats 4000000 in
theorem scX9_init_294 {d : Nat} [zGh] (P : zP d) : zSim X_X9_init 21 P 294 (cX9_init_294 P) := by
  unfold cX9_init_294
  refine sm_newJ (pc := 294) dX9_init_294 wd_45 ?_
  refine pf_X9_118 (pc := 296) rfl rfl dX9_init_296 ?_
  refine sm_aload_n (pc := 299) (n := 0) dX9_init_299 rfl ?_
  refine sm_sipush (pc := 300) dX9_init_300 zc_s_200 ?_
  refine sm_newI (pc := 303) dX9_init_303 wd_46 ?_
  refine pf_X9_121 (pc := 305) rfl rfl dX9_init_305 ?_
  refine sm_aload_n (pc := 308) (n := 0) dX9_init_308 rfl ?_
  refine sm_iconst (pc := 309) dX9_init_309 zc_i_m1 ?_
  refine pf_X9_124 (pc := 310) rfl dX9_init_310 ?_
  refine sm_aload_n (pc := 313) (n := 0) dX9_init_313 rfl ?_
  refine sm_bipush (pc := 314) dX9_init_314 zc_b_20 ?_
  refine sm_newI (pc := 316) dX9_init_316 wd_46 ?_
  refine pf_X9_128 (pc := 318) rfl rfl dX9_init_318 ?_
  refine sm_aload_n (pc := 321) (n := 0) dX9_init_321 rfl ?_
  refine sm_bipush (pc := 322) dX9_init_322 zc_b_20 ?_
  refine sm_newI (pc := 324) dX9_init_324 wd_46 ?_
  refine pf_X9_131 (pc := 326) rfl rfl dX9_init_326 ?_
  refine sm_aload_n (pc := 329) (n := 0) dX9_init_329 rfl ?_
  refine sm_bipush (pc := 330) dX9_init_330 zc_b_55 ?_
  refine sm_newJ (pc := 332) dX9_init_332 wd_45 ?_
  refine pf_X9_134 (pc := 334) rfl rfl dX9_init_334 ?_
  refine sm_aload_n (pc := 337) (n := 0) dX9_init_337 rfl ?_
  refine sm_bipush (pc := 338) dX9_init_338 zc_b_55 ?_
  refine sm_newJ (pc := 340) dX9_init_340 wd_45 ?_
  exact scX9_init_342 P
noncomputable def cX9_init_245 {d : Nat} (P : zP d) : zK d := (xnwa 0 (xpfR 25 38 (xald 0 (xpI 242 (xnwa 0 (xpfR 25 39 (xald 0 (xpI 121 (xnwa 0 (xpfR 25 40 (xald 0 (xpI 121 (xnwa 2 (xpfR 25 41 (xald 0 (xpI 11 (xnwa 0 (xpfR 25 42 (xald 0 (xpI 66 (xnwa 2 (xpfR 25 43 (xald 0 (xpI 11 (cX9_init_294 P)))))))))))))))))))))))))
set_option maxRecDepth 100000 in
set_option maxHeartbeats 4000000 in
theorem scX9_init_245 {d : Nat} [zGh] (P : zP d) : zSim X_X9_init 21 P 245 (cX9_init_245 P) := by
  unfold cX9_init_245
  refine sm_newI (pc := 245) dX9_init_245 wd_46 ?_
  refine pf_X9_99 (pc := 247) rfl rfl dX9_init_247 ?_
  refine sm_aload_n (pc := 250) (n := 0) dX9_init_250 rfl ?_
  refine sm_sipush (pc := 251) dX9_init_251 zc_s_242 ?_
  refine sm_newI (pc := 254) dX9_init_254 wd_46 ?_
  refine pf_X9_102 (pc := 256) rfl rfl dX9_init_256 ?_
  refine sm_aload_n (pc := 259) (n := 0) dX9_init_259 rfl ?_
  refine sm_bipush (pc := 260) dX9_init_260 zc_b_121 ?_
  refine sm_newI (pc := 262) dX9_init_262 wd_46 ?_
  refine pf_X9_105 (pc := 264) rfl rfl dX9_init_264 ?_
  refine sm_aload_n (pc := 267) (n := 0) dX9_init_267 rfl ?_
  refine sm_bipush (pc := 268) dX9_init_268 zc_b_121 ?_
  refine sm_newJ (pc := 270) dX9_init_270 wd_45 ?_
  refine pf_X9_108 (pc := 272) rfl rfl dX9_init_272 ?_
  refine sm_aload_n (pc := 275) (n := 0) dX9_init_275 rfl ?_
  refine sm_bipush (pc := 276) dX9_init_276 zc_b_11 ?_
  refine sm_newI (pc := 278) dX9_init_278 wd_46 ?_
  refine pf_X9_112 (pc := 280) rfl rfl dX9_init_280 ?_
  refine sm_aload_n (pc := 283) (n := 0) dX9_init_283 rfl ?_
  refine sm_bipush (pc := 284) dX9_init_284 zc_b_66 ?_
  refine sm_newJ (pc := 286) dX9_init_286 wd_45 ?_
  refine pf_X9_115 (pc := 288) rfl rfl dX9_init_288 ?_
  refine sm_aload_n (pc := 291) (n := 0) dX9_init_291 rfl ?_
  refine sm_bipush (pc := 292) dX9_init_292 zc_b_11 ?_
  exact scX9_init_294 P
noncomputable def cX9_init_195 {d : Nat} (P : zP d) : zK d := (xnwa 0 (xpfR 25 32 (xald 0 (xpI 7 (xnwa 0 (xpfR 25 33 (xald 0 (xpI 256 (xnwa 0 (xpfR 25 34 (xald 0 (xpI 2816 (xnwa 0 (xpfR 25 35 (xald 0 (xpI 11 (xnwa 0 (xpfR 25 36 (xald 0 (xpI 121 (xnwa 0 (xpfR 25 37 (xald 0 (xpI 121 (cX9_init_245 P)))))))))))))))))))))))))
set_option maxRecDepth 100000 in
set_option maxHeartbeats 4000000 in
theorem scX9_init_195 {d : Nat} [zGh] (P : zP d) : zSim X_X9_init 21 P 195 (cX9_init_195 P) := by
  unfold cX9_init_195
  refine sm_newI (pc := 195) dX9_init_195 wd_46 ?_
  refine pf_X9_81 (pc := 197) rfl rfl dX9_init_197 ?_
  refine sm_aload_n (pc := 200) (n := 0) dX9_init_200 rfl ?_
  refine sm_bipush (pc := 201) dX9_init_201 zc_b_7 ?_
  refine sm_newI (pc := 203) dX9_init_203 wd_46 ?_
  refine pf_X9_84 (pc := 205) rfl rfl dX9_init_205 ?_
  refine sm_aload_n (pc := 208) (n := 0) dX9_init_208 rfl ?_
  refine sm_sipush (pc := 209) dX9_init_209 zc_s_256 ?_
  refine sm_newI (pc := 212) dX9_init_212 wd_46 ?_
  refine pf_X9_87 (pc := 214) rfl rfl dX9_init_214 ?_
  refine sm_aload_n (pc := 217) (n := 0) dX9_init_217 rfl ?_
  refine sm_sipush (pc := 218) dX9_init_218 zc_s_2816 ?_
  refine sm_newI (pc := 221) dX9_init_221 wd_46 ?_
  refine pf_X9_90 (pc := 223) rfl rfl dX9_init_223 ?_
  refine sm_aload_n (pc := 226) (n := 0) dX9_init_226 rfl ?_
  refine sm_bipush (pc := 227) dX9_init_227 zc_b_11 ?_
  refine sm_newI (pc := 229) dX9_init_229 wd_46 ?_
  refine pf_X9_93 (pc := 231) rfl rfl dX9_init_231 ?_
  refine sm_aload_n (pc := 234) (n := 0) dX9_init_234 rfl ?_
  refine sm_bipush (pc := 235) dX9_init_235 zc_b_121 ?_
  refine sm_newI (pc := 237) dX9_init_237 wd_46 ?_
  refine pf_X9_96 (pc := 239) rfl rfl dX9_init_239 ?_
  refine sm_aload_n (pc := 242) (n := 0) dX9_init_242 rfl ?_
  refine sm_bipush (pc := 243) dX9_init_243 zc_b_121 ?_
  exact scX9_init_245 P
noncomputable def cX9_init_144 {d : Nat} (P : zP d) : zK d := (xnwa 0 (xpfR 25 24 (xald 0 (xpI 46656 (xnwa 0 (xpfR 25 26 (xald 0 (xpI 720 (xnwa 0 (xpfR 25 27 (xald 0 (xpI 12000 (xnwa 0 (xpfR 25 29 (xald 0 (xpI 12000 (xnwa 0 (xpfR 25 30 (xald 0 (xpI 6 (xnwa 0 (xpfR 25 31 (xald 0 (xpI 7 (cX9_init_195 P)))))))))))))))))))))))))
set_option maxRecDepth 100000 in
set_option maxHeartbeats 4000000 in
theorem scX9_init_144 {d : Nat} [zGh] (P : zP d) : zSim X_X9_init 21 P 144 (cX9_init_144 P) := by
  unfold cX9_init_144
  refine sm_newI (pc := 144) dX9_init_144 wd_46 ?_
  refine pf_X9_62 (pc := 146) rfl rfl dX9_init_146 ?_
  refine sm_aload_n (pc := 149) (n := 0) dX9_init_149 rfl ?_
  refine sm_ldc (pc := 150) dX9_init_150 wd_908 zc_c_46656 ?_
  refine sm_newI (pc := 152) dX9_init_152 wd_46 ?_
  refine pf_X9_66 (pc := 154) rfl rfl dX9_init_154 ?_
  refine sm_aload_n (pc := 157) (n := 0) dX9_init_157 rfl ?_
  refine sm_sipush (pc := 158) dX9_init_158 zc_s_720 ?_
  refine sm_newI (pc := 161) dX9_init_161 wd_46 ?_
  refine pf_X9_69 (pc := 163) rfl rfl dX9_init_163 ?_
  refine sm_aload_n (pc := 166) (n := 0) dX9_init_166 rfl ?_
  refine sm_sipush (pc := 167) dX9_init_167 zc_s_12000 ?_
  refine sm_newI (pc := 170) dX9_init_170 wd_46 ?_
  refine pf_X9_72 (pc := 172) rfl rfl dX9_init_172 ?_
  refine sm_aload_n (pc := 175) (n := 0) dX9_init_175 rfl ?_
  refine sm_sipush (pc := 176) dX9_init_176 zc_s_12000 ?_
  refine sm_newI (pc := 179) dX9_init_179 wd_46 ?_
  refine pf_X9_75 (pc := 181) rfl rfl dX9_init_181 ?_
  refine sm_aload_n (pc := 184) (n := 0) dX9_init_184 rfl ?_
  refine sm_bipush (pc := 185) dX9_init_185 zc_b_6 ?_
  refine sm_newI (pc := 187) dX9_init_187 wd_46 ?_
  refine pf_X9_78 (pc := 189) rfl rfl dX9_init_189 ?_
  refine sm_aload_n (pc := 192) (n := 0) dX9_init_192 rfl ?_
  refine sm_bipush (pc := 193) dX9_init_193 zc_b_7 ?_
  exact scX9_init_195 P
noncomputable def cX9_init_95 {d : Nat} (P : zP d) : zK d := (xnwa 0 (xpfR 25 16 (xald 0 (xpI 11 (xnwa 0 (xpfR 25 17 (xald 0 (xpI 11 (xnwa 0 (xpfR 25 19 (xald 0 (xpI 11 (xnwa 0 (xpfR 25 20 (xald 0 (xpI 11 (xnwa 0 (xpfR 25 21 (xald 0 (xpI 456 (xnwa 0 (xpfR 25 22 (xald 0 (xpI 6 (cX9_init_144 P)))))))))))))))))))))))))
set_option maxRecDepth 100000 in
set_option maxHeartbeats 4000000 in
theorem scX9_init_95 {d : Nat} [zGh] (P : zP d) : zSim X_X9_init 21 P 95 (cX9_init_95 P) := by
  unfold cX9_init_95
  refine sm_newI (pc := 95) dX9_init_95 wd_46 ?_
  refine pf_X9_44 (pc := 97) rfl rfl dX9_init_97 ?_
  refine sm_aload_n (pc := 100) (n := 0) dX9_init_100 rfl ?_
  refine sm_bipush (pc := 101) dX9_init_101 zc_b_11 ?_
  refine sm_newI (pc := 103) dX9_init_103 wd_46 ?_
  refine pf_X9_47 (pc := 105) rfl rfl dX9_init_105 ?_
  refine sm_aload_n (pc := 108) (n := 0) dX9_init_108 rfl ?_
  refine sm_bipush (pc := 109) dX9_init_109 zc_b_11 ?_
  refine sm_newI (pc := 111) dX9_init_111 wd_46 ?_
  refine pf_X9_50 (pc := 113) rfl rfl dX9_init_113 ?_
  refine sm_aload_n (pc := 116) (n := 0) dX9_init_116 rfl ?_
  refine sm_bipush (pc := 117) dX9_init_117 zc_b_11 ?_
  refine sm_newI (pc := 119) dX9_init_119 wd_46 ?_
  refine pf_X9_53 (pc := 121) rfl rfl dX9_init_121 ?_
  refine sm_aload_n (pc := 124) (n := 0) dX9_init_124 rfl ?_
  refine sm_bipush (pc := 125) dX9_init_125 zc_b_11 ?_
  refine sm_newI (pc := 127) dX9_init_127 wd_46 ?_
  refine pf_X9_56 (pc := 129) rfl rfl dX9_init_129 ?_
  refine sm_aload_n (pc := 132) (n := 0) dX9_init_132 rfl ?_
  refine sm_sipush (pc := 133) dX9_init_133 zc_s_456 ?_
  refine sm_newI (pc := 136) dX9_init_136 wd_46 ?_
  refine pf_X9_59 (pc := 138) rfl rfl dX9_init_138 ?_
  refine sm_aload_n (pc := 141) (n := 0) dX9_init_141 rfl ?_
  refine sm_bipush (pc := 142) dX9_init_142 zc_b_6 ?_
  exact scX9_init_144 P
noncomputable def cX9_init_47 {d : Nat} (P : zP d) : zK d := (xnwa 1 (xpfR 25 8 (xald 0 (xpI 11 (xnwa 0 (xpfR 25 9 (xald 0 (xpI 11 (xnwa 0 (xpfR 25 10 (xald 0 (xpI 6 (xnwa 0 (xpfR 25 13 (xald 0 (xpI 121 (xnwa 0 (xpfR 25 14 (xald 0 (xpI 11 (xnwa 0 (xpfR 25 15 (xald 0 (xpI 11 (cX9_init_95 P)))))))))))))))))))))))))
set_option maxRecDepth 100000 in
set_option maxHeartbeats 4000000 in
theorem scX9_init_47 {d : Nat} [zGh] (P : zP d) : zSim X_X9_init 21 P 47 (cX9_init_47 P) := by
  unfold cX9_init_47
  refine sm_newZ (pc := 47) dX9_init_47 wd_360 ?_
  refine pf_X9_26 (pc := 49) rfl rfl dX9_init_49 ?_
  refine sm_aload_n (pc := 52) (n := 0) dX9_init_52 rfl ?_
  refine sm_bipush (pc := 53) dX9_init_53 zc_b_11 ?_
  refine sm_newI (pc := 55) dX9_init_55 wd_46 ?_
  refine pf_X9_29 (pc := 57) rfl rfl dX9_init_57 ?_
  refine sm_aload_n (pc := 60) (n := 0) dX9_init_60 rfl ?_
  refine sm_bipush (pc := 61) dX9_init_61 zc_b_11 ?_
  refine sm_newI (pc := 63) dX9_init_63 wd_46 ?_
  refine pf_X9_32 (pc := 65) rfl rfl dX9_init_65 ?_
  refine sm_aload_n (pc := 68) (n := 0) dX9_init_68 rfl ?_
  refine sm_bipush (pc := 69) dX9_init_69 zc_b_6 ?_
  refine sm_newI (pc := 71) dX9_init_71 wd_46 ?_
  refine pf_X9_35 (pc := 73) rfl rfl dX9_init_73 ?_
  refine sm_aload_n (pc := 76) (n := 0) dX9_init_76 rfl ?_
  refine sm_bipush (pc := 77) dX9_init_77 zc_b_121 ?_
  refine sm_newI (pc := 79) dX9_init_79 wd_46 ?_
  refine pf_X9_38 (pc := 81) rfl rfl dX9_init_81 ?_
  refine sm_aload_n (pc := 84) (n := 0) dX9_init_84 rfl ?_
  refine sm_bipush (pc := 85) dX9_init_85 zc_b_11 ?_
  refine sm_newI (pc := 87) dX9_init_87 wd_46 ?_
  refine pf_X9_41 (pc := 89) rfl rfl dX9_init_89 ?_
  refine sm_aload_n (pc := 92) (n := 0) dX9_init_92 rfl ?_
  refine sm_bipush (pc := 93) dX9_init_93 zc_b_11 ?_
  exact scX9_init_95 P
noncomputable def b_X9_init {d : Nat} (P : zP d) : zK d := (xald 0 (xobj (xald 0 (xpI 66 (xnwa 0 (xpfR 25 3 (xald 0 (xpI 11 (xnwa 0 (xpfR 25 4 (xald 0 (xpI 11 (xnwa 0 (xpfR 25 5 (xald 0 (xpI 11 (xnwa 0 (xpfR 25 6 (xald 0 (xpI 11 (xnwa 1 (xpfR 25 7 (xald 0 (xpI 11 (cX9_init_47 P)))))))))))))))))))))))))
set_option maxRecDepth 100000 in
set_option maxHeartbeats 4000000 in
theorem s_X9_init {d : Nat} [zGh] (P : zP d) : zSim X_X9_init 21 P 0 (b_X9_init P) := by
  unfold b_X9_init
  refine sm_aload_n (pc := 0) (n := 0) dX9_init_0 rfl ?_
  refine sm_objinit (pc := 1) wd_907 wd_21 wd_22 (by decide) dX9_init_1 ?_
  refine sm_aload_n (pc := 4) (n := 0) dX9_init_4 rfl ?_
  refine sm_bipush (pc := 5) dX9_init_5 zc_b_66 ?_
  refine sm_newI (pc := 7) dX9_init_7 wd_46 ?_
  refine pf_X9_7 (pc := 9) rfl rfl dX9_init_9 ?_
  refine sm_aload_n (pc := 12) (n := 0) dX9_init_12 rfl ?_
  refine sm_bipush (pc := 13) dX9_init_13 zc_b_11 ?_
  refine sm_newI (pc := 15) dX9_init_15 wd_46 ?_
  refine pf_X9_13 (pc := 17) rfl rfl dX9_init_17 ?_
  refine sm_aload_n (pc := 20) (n := 0) dX9_init_20 rfl ?_
  refine sm_bipush (pc := 21) dX9_init_21 zc_b_11 ?_
  refine sm_newI (pc := 23) dX9_init_23 wd_46 ?_
  refine pf_X9_16 (pc := 25) rfl rfl dX9_init_25 ?_
  refine sm_aload_n (pc := 28) (n := 0) dX9_init_28 rfl ?_
  refine sm_bipush (pc := 29) dX9_init_29 zc_b_11 ?_
  refine sm_newI (pc := 31) dX9_init_31 wd_46 ?_
  refine pf_X9_19 (pc := 33) rfl rfl dX9_init_33 ?_
  refine sm_aload_n (pc := 36) (n := 0) dX9_init_36 rfl ?_
  refine sm_bipush (pc := 37) dX9_init_37 zc_b_11 ?_
  refine sm_newZ (pc := 39) dX9_init_39 wd_360 ?_
  refine pf_X9_22 (pc := 41) rfl rfl dX9_init_41 ?_
  refine sm_aload_n (pc := 44) (n := 0) dX9_init_44 rfl ?_
  refine sm_bipush (pc := 45) dX9_init_45 zc_b_11 ?_
  exact scX9_init_47 P
noncomputable def f_X9_init {d : Nat} : List zV → zH d → zP d → Bool := zfn 1 b_X9_init
theorem m_X9_init {d : Nat} : zMet (d := d) X_X9_init yX9_init 21 f_X9_init := zmet_mk (X := X_X9_init) (by decide) rfl rfl s_X9_init

abbrev X_X9_group : zM := (RX9, cX9_group, 3, (some .int), "group")
noncomputable def bX9_group_33 {d : Nat} (P : zP d) : zK d := (xpI 4294967295 (xiret P))
set_option maxRecDepth 100000 in
set_option maxHeartbeats 4000000 in
theorem sbX9_group_33 {d : Nat} [zGh] (P : zP d) : zSim X_X9_group 21 P 33 (bX9_group_33 P) := by
  unfold bX9_group_33
  refine sm_iconst (pc := 33) dX9_group_33 zc_i_m1 ?_
  exact sm_ireturn (pc := 34) dX9_group_34 rfl
noncomputable def bX9_group_35 {d : Nat} (P : zP d) : zK d := (xald 0 (xild 1 (xild 2 (xcV 25 3 0 0 f_X9_lays (xald 0 (xgfI 25 2 (xiret P)))))))
set_option maxRecDepth 100000 in
set_option maxHeartbeats 4000000 in
theorem sbX9_group_35 {d : Nat} [zGh] (P : zP d) : zSim X_X9_group 21 P 35 (bX9_group_35 P) := by
  unfold bX9_group_35
  refine sm_aload_n (pc := 35) (n := 0) dX9_group_35 rfl ?_
  refine sm_iload_n (pc := 36) (n := 1) dX9_group_36 rfl ?_
  refine sm_iload_n (pc := 37) (n := 2) dX9_group_37 rfl ?_
  refine sm_cV (pc := 38) (ci := 9) (n := 3) (mc := 0) (ms := 0) rfl m_X9_lays (cr_X9_149 (X := X_X9_group) (fr := 21) (frc := 20) (pc := 38) (mc := 0) (ms := 0) rfl (by decide) dX9_group_38) ?_
  refine sm_aload_n (pc := 41) (n := 0) dX9_group_41 rfl ?_
  refine gf_X9_153 (pc := 42) rfl dX9_group_42 ?_
  exact sm_ireturn (pc := 45) dX9_group_45 rfl
noncomputable def b_X9_group {d : Nat} (P : zP d) : zK d := (xild 1 (xi2l (xpL 1 (xpL 6 (xcS 3 0 0 f_X9_isIn (xjoin (bX9_group_33 P) (fun j33 => (xif0 t0eq j33 (xild 2 (xpI 2 (xjoin (bX9_group_35 P) (fun j35 => (xcmp Nat.beq j35 (xild 2 (xpI 3 (xcmp Nat.beq j35 (xild 2 (xpI 5 (xcmp Nat.beq j35 (xild 2 (xpI 7 (xcmp Nat.beq j35 j33))))))))))))))))))))))
set_option maxRecDepth 100000 in
set_option maxHeartbeats 4000000 in
theorem s_X9_group {d : Nat} [zGh] (P : zP d) : zSim X_X9_group 21 P 0 (b_X9_group P) := by
  unfold b_X9_group
  refine sm_iload_n (pc := 0) (n := 1) dX9_group_0 rfl ?_
  refine sm_i2l (pc := 1) dX9_group_1 ?_
  refine sm_lconst (pc := 2) dX9_group_2 zc_l_1 ?_
  refine sm_ldc2 (pc := 3) dX9_group_3 wd_1212 zc_cl_6 ?_
  refine sm_cS (pc := 6) (n := 3) (mc := 0) (ms := 0) m_X9_isIn (cr_X9_283 (X := X_X9_group) (fr := 21) (frc := 1) (pc := 6) (mc := 0) (ms := 0) rfl (by decide) dX9_group_6) ?_
  refine sm_join (pc := 9) (pc' := 33) (sbX9_group_33 P) (fun j33 hj33 => ?_)
  refine sm_if_eq (pc := 9) (tgt := 33) dX9_group_9 (by decide) ?_ ?_
  · skip
    exact hj33
  · skip
    refine sm_iload_n (pc := 12) (n := 2) dX9_group_12 rfl ?_
    refine sm_iconst (pc := 13) dX9_group_13 zc_i_2 ?_
    refine sm_join (pc := 14) (pc' := 35) (sbX9_group_35 P) (fun j35 hj35 => ?_)
    refine sm_icmp_eq (pc := 14) (tgt := 35) dX9_group_14 (by decide) ?_ ?_
    · skip
      exact hj35
    · skip
      refine sm_iload_n (pc := 17) (n := 2) dX9_group_17 rfl ?_
      refine sm_iconst (pc := 18) dX9_group_18 zc_i_3 ?_
      refine sm_icmp_eq (pc := 19) (tgt := 35) dX9_group_19 (by decide) ?_ ?_
      · skip
        exact hj35
      · skip
        refine sm_iload_n (pc := 22) (n := 2) dX9_group_22 rfl ?_
        refine sm_iconst (pc := 23) dX9_group_23 zc_i_5 ?_
        refine sm_icmp_eq (pc := 24) (tgt := 35) dX9_group_24 (by decide) ?_ ?_
        · skip
          exact hj35
        · skip
          refine sm_iload_n (pc := 27) (n := 2) dX9_group_27 rfl ?_
          refine sm_bipush (pc := 28) dX9_group_28 zc_b_7 ?_
          refine sm_icmp_eq (pc := 30) (tgt := 35) dX9_group_30 (by decide) ?_ ?_
          · skip
            exact hj35
          · skip
            exact hj33
noncomputable def f_X9_group {d : Nat} : List zV → zH d → zP d → Bool := zfn 3 b_X9_group
theorem m_X9_group {d : Nat} : zMet (d := d) X_X9_group yX9_group 21 f_X9_group := zmet_mk (X := X_X9_group) (by decide) rfl rfl s_X9_group
end
section
/-! ===== BEGIN new T[n][m]: the outer array a place, the inner ones among the pooled ===== -/
/-- f, but v at every address of l -/
def vr_up {α : Type} (f : Nat → α) (l : List Nat) (v : α) : Nat → α := fun a => if a ∈ l then v else f a
theorem vr_up_in {α : Type} {f : Nat → α} {l : List Nat} {v : α} {a : Nat} (h : a ∈ l) : vr_up f l v a = v := if_pos h
theorem vr_up_ne {α : Type} {f : Nat → α} {l : List Nat} {v : α} {a : Nat} (h : a ∉ l) : vr_up f l v a = f a := if_neg h
theorem vr_rows {L l : List Nat} {f : Nat → va_E} {e : va_E} (h : ∀ a, a ∈ l → a ∉ L) : va_pl L f ++ l.map (fun a => (a, e)) = va_pl (L ++ l) (vr_up f l e) := by
  unfold va_pl
  rw [List.map_append]
  congr 1
  · apply List.map_congr_left
    intro a ha
    rw [vr_up_ne (fun q => h a q ha)]
  · apply List.map_congr_left
    intro a ha
    rw [vr_up_in ha]
theorem vr_lay {X rows : va_W} {x : Nat × va_E} {pl : va_W} {D : va_G} {cl : List vw_C} {H : Heap} (hP : va_P D cl (((X ++ pl) ++ [x]) ++ rows) H) : va_P D cl ((X ++ [x]) ++ (pl ++ rows)) H := by
  rw [List.append_assoc (X ++ pl)] at hP
  have h := va_P.swap hP
  rw [← List.append_assoc X] at h
  have h2 := va_P.swap h
  rw [List.append_assoc (X ++ [x])] at h2
  exact h2
theorem vr_layD {X rows : va_W} {x : Nat × va_E} {pl : va_W} {A : Nat → Prop} (hD : va_D A (((X ++ pl) ++ [x]) ++ rows)) : va_D A ((X ++ [x]) ++ (pl ++ rows)) := by
  rw [List.append_assoc (X ++ pl)] at hD
  have h := va_D.swap hD
  rw [← List.append_assoc X] at h
  have h2 := va_D.swap h
  rw [List.append_assoc (X ++ [x])] at h2
  exact h2
theorem vr_outer (c : ClassId) (N h0 : Nat) : ∀ i : Nat, Jvm.Free.Multi.outerC c N h0 i = arrV c N (fun j => va_rf (if j < i then some (h0 + 1 + j) else none))
  | 0 => by
    show ({ cls := c, slots := Array.replicate N .null, vm := .none } : Cell) = _
    rw [arrV_new]
    refine congrArg (arrV c N) (funext fun j => ?_)
    simp [va_rf]
  | i + 1 => by
    show (Jvm.Free.Multi.outerC c N h0 i).setSlot i (.ref (h0 + 1 + i)) = _
    rw [vr_outer c N h0 i, arrV_store]
    refine congrArg (arrV c N) (funext fun j => ?_)
    by_cases e : j = i
    · subst e
      simp [updV, va_rf]
    · by_cases h : j < i
      · simp [updV, e, h, Nat.lt_succ_of_lt h]
      · simp [updV, e, h, show ¬ j < i + 1 by omega]
section VGM
variable {p : Program} {l : Launch} {e : Env} {R : Room} {s : State} {m : MethodId} {args : Array Value} {below : List Frame} {meth : Method} {c : Code} {H : Heap} {locs : List Loc} {cells slots : Nat} {Q : State → Prop}
variable {cc : ByteArray} {pc : Nat} {ls : Array Slot} {rest : List Value} {D : va_G} {cl : List vw_C} {A : Nat → Prop} {a : Nat} {tys : List (ClassId × FieldType)} {ws : va_W} {H0 : Heap}
theorem va_mna {X : va_W} {L : List Nat} {f : Nat → va_E} {cc : ByteArray} (hexec : p.tables.exec = Jvm.exec) (hb : c.code = cc) {own : String} {index : Nat} {ty : FieldType} {cy : ClassId} (hown : s.vm.findClass own = some m.cls) (hclink : (Cond.classLink own index ("[" ++ (FieldType.array ty).toString)).before args s = true) (hover : va_AOA ty s) (harr : (Cond.arrayClass ty).before args s = true) (hcy : s.vm.findClass (FieldType.array ty).toString = some cy)
    (hK : va_K D cl tys s) (hP : va_P D cl (X ++ va_pl L f) H) (hD : va_D A (X ++ va_pl L f)) (hS : va_S A H0 H locs) (hA : ∀ q, H0.size ≤ q → A q) {n k : Int32} {N' K' : Nat} {z : vp_A} (hn : ¬ n < 0) (hk : ¬ k < 0) (hN : n.toNatClampNeg = N') (hM : k.toNatClampNeg = K')
    (hb1 : N' * 4 ≤ 536870912) (hb2 : K' * componentBytes ty ≤ 536870912) (hb3 : K' ≤ 536870912) (hdf : fits ty (defaultValue ty) = true) (hdd : (defaultValue ty).isDefault = true) (hcells : cells + (1 + N') ≤ R.cells) (hslots : slots + (N' + N' * K') ≤ R.slots) (hz : ∀ c : ClassId, Jvm.Free.Multi.innerC c K' (defaultValue ty) = vp_cell c z) (hdg : decode cc pc = .ok (.multianewarray index 2, 4))
    (kk : ∀ (q : Nat) (r : Nat → Nat) (cA : ClassId) (H1 : Heap), (∀ i j : Nat, i < N' → j < N' → r i = r j → i = j) → (∀ i : Nat, i < N' → r i ∉ L) → va_K D cl (tys ++ [(cA, .array ty)]) s →
      va_P D cl ((X ++ [(q, .inl (cA, N', .inr (.inr (.inr (.inr (fun i => if i < N' then some (r i) else none))))))]) ++ va_pl (L ++ (List.range N').map r) (vr_up f ((List.range N').map r) (.inl (cy, z)))) H1 → va_D A ((X ++ [(q, .inl (cA, N', .inr (.inr (.inr (.inr (fun i => if i < N' then some (r i) else none))))))]) ++ va_pl (L ++ (List.range N').map r) (vr_up f ((List.range N').map r) (.inl (cy, z)))) → va_S A H0 H1 locs →
      W p l e R s m args below meth c H1 locs (cells + 1 + N') (slots + N' + N' * K') Q (F0 m (pc + 4) ls (.ref q :: rest))) : W p l e R s m args below meth c H locs cells slots Q (F0 m pc ls (.int k :: .int n :: rest)) := by
  subst hN
  subst hM
  intro T hT Xs
  obtain ⟨vm₁, cA, comp, -, fA, fC, hO, -, X', step⟩ := Xs.multianewarray2F hexec hown hclink (va_AOA.use hover) harr (g := F0 m pc ls (.int k :: .int n :: rest)) rfl (by rw [hb]; exact hdg) rfl hn hk hb1 hb2 hb3 hdf hdd hcells hslots
  have ec : some cy = some comp := hcy.symm.trans fC
  cases ec
  generalize hF : Jvm.Free.Multi.fill (T.setVm vm₁) cA cy n.toNatClampNeg k.toNatClampNeg (defaultValue ty) n.toNatClampNeg = F at X' step
  have hTh : (T.setVm vm₁).heap = H := hT
  obtain ⟨f1, f2, -, -⟩ := Jvm.Free.Multi.fill_facts (T.setVm vm₁) cA cy n.toNatClampNeg k.toNatClampNeg (defaultValue ty) n.toNatClampNeg
  rw [hF, hTh] at f1 f2
  have hold : ∀ x : Nat, x < H.size → F.heap[x]? = H[x]? := fun x hx => by
    have := Jvm.Free.Multi.fill_old (T.setVm vm₁) cA cy n.toNatClampNeg k.toNatClampNeg (defaultValue ty) (a := x) (by rw [hTh]; exact hx) n.toNatClampNeg
    rw [hF, hTh] at this
    exact this
  have hrow : ∀ j : Nat, j < n.toNatClampNeg → F.heap[H.size + 1 + j]? = some (vp_cell cy z) := fun j hj => by
    have := Jvm.Free.Multi.fill_inner (T.setVm vm₁) cA cy n.toNatClampNeg k.toNatClampNeg (defaultValue ty) n.toNatClampNeg j hj
    rw [hF, hTh, hz] at this
    exact this
  have hout : Jvm.Free.Multi.outerC cA n.toNatClampNeg H.size n.toNatClampNeg = vp_cell cA (n.toNatClampNeg, .inr (.inr (.inr (.inr (fun i => if i < n.toNatClampNeg then some (H.size + 1 + i) else none))))) := by
    rw [vp_cell_q]
    exact vr_outer cA n.toNatClampNeg H.size n.toNatClampNeg
  rw [hout] at f2
  have hlt : ∀ a, a ∈ L → a < H.size := fun a ha => by
    obtain ⟨k9, hk9⟩ := va_pl_get (X := X) (f := f) ha
    exact (hP k9 _ hk9).lt
  have hnl : ∀ i : Nat, i < n.toNatClampNeg → H.size + 1 + i ∉ L := fun i _ h => by
    have := hlt _ h
    omega
  have hnm : ∀ a, a ∈ (List.range n.toNatClampNeg).map (fun i => H.size + 1 + i) → a ∉ L := fun a ha h => by
    obtain ⟨i, -, rfl⟩ := List.mem_map.mp ha
    have := hlt _ h
    omega
  have hP0 : va_P D cl (X ++ va_pl L f) F.heap := hP.kept (fun k9 x hx => hold x.1 ((hP k9 x hx).lt))
  have hP1 : va_P D cl ((X ++ va_pl L f) ++ [(H.size, .inl (cA, n.toNatClampNeg, .inr (.inr (.inr (.inr (fun i => if i < n.toNatClampNeg then some (H.size + 1 + i) else none))))))]) F.heap := hP0.app (fun k9 x hx => by
    have h0 : k9 < 1 := (List.getElem?_eq_some_iff.mp hx).1
    rw [show k9 = 0 by omega] at hx
    cases hx
    exact f2)
  have hP2 : va_P D cl (((X ++ va_pl L f) ++ [(H.size, .inl (cA, n.toNatClampNeg, .inr (.inr (.inr (.inr (fun i => if i < n.toNatClampNeg then some (H.size + 1 + i) else none))))))]) ++ ((List.range n.toNatClampNeg).map (fun i => H.size + 1 + i)).map (fun a => (a, .inl (cy, z)))) F.heap := hP1.app (fun k9 x hx => by
    obtain ⟨a, ha, rfl⟩ := List.mem_map.mp (List.mem_of_getElem? hx)
    obtain ⟨i, hi, rfl⟩ := List.mem_map.mp ha
    exact hrow i (List.mem_range.mp hi))
  have hD2 : va_D A (((X ++ va_pl L f) ++ [(H.size, .inl (cA, n.toNatClampNeg, .inr (.inr (.inr (.inr (fun i => if i < n.toNatClampNeg then some (H.size + 1 + i) else none))))))]) ++ ((List.range n.toNatClampNeg).map (fun i => H.size + 1 + i)).map (fun a => (a, .inl (cy, z)))) := by
    have hD1 := hD.push (e := .inl (cA, n.toNatClampNeg, .inr (.inr (.inr (.inr (fun i => if i < n.toNatClampNeg then some (H.size + 1 + i) else none)))))) hP rfl (hA _ hS.1)
    generalize hW1 : (X ++ va_pl L f) ++ [(H.size, .inl (cA, n.toNatClampNeg, .inr (.inr (.inr (.inr (fun i => if i < n.toNatClampNeg then some (H.size + 1 + i) else none))))))] = W1 at hD1 hP1 ⊢
    have hle : ∀ (k9 : Nat) (x : Nat × va_E), W1[k9]? = some x → x.1 ≤ H.size := fun k9 x hx => by
      rw [← hW1] at hx
      by_cases hl : k9 < (X ++ va_pl L f).length
      · rw [List.getElem?_append_left hl] at hx
        exact Nat.le_of_lt ((hP k9 x hx).lt)
      · rw [List.getElem?_append_right (by omega)] at hx
        have h0 : k9 - (X ++ va_pl L f).length < 1 := (List.getElem?_eq_some_iff.mp hx).1
        rw [show k9 - (X ++ va_pl L f).length = 0 by omega] at hx
        cases hx
        exact Nat.le_refl _
    have hr : ∀ (k9 : Nat) (x : Nat × va_E), (((List.range n.toNatClampNeg).map (fun i => H.size + 1 + i)).map (fun a => ((a, .inl (cy, z)) : Nat × va_E)))[k9]? = some x → x.1 = H.size + 1 + k9 := fun k9 x hx => by
      rw [List.getElem?_map, List.getElem?_map] at hx
      by_cases h9 : k9 < n.toNatClampNeg
      · rw [List.getElem?_range h9] at hx
        cases hx
        rfl
      · have hn0 : (List.range n.toNatClampNeg)[k9]? = none := List.getElem?_eq_none (by rw [List.length_range]; omega)
        rw [hn0] at hx
        cases hx
    refine ⟨fun i j x y hi hj hxy => ?_, fun k9 x hx => ?_⟩
    · by_cases h1 : i < W1.length <;> by_cases h2 : j < W1.length
      · rw [List.getElem?_append_left h1] at hi
        rw [List.getElem?_append_left h2] at hj
        exact hD1.1 i j x y hi hj hxy
      · rw [List.getElem?_append_left h1] at hi
        rw [List.getElem?_append_right (by omega)] at hj
        have := hle _ _ hi
        have := hr _ _ hj
        omega
      · rw [List.getElem?_append_right (by omega)] at hi
        rw [List.getElem?_append_left h2] at hj
        have := hle _ _ hj
        have := hr _ _ hi
        omega
      · rw [List.getElem?_append_right (by omega)] at hi hj
        have := hr _ _ hi
        have := hr _ _ hj
        omega
    · by_cases h1 : k9 < W1.length
      · rw [List.getElem?_append_left h1] at hx
        exact hD1.2 k9 x hx
      · rw [List.getElem?_append_right (by omega)] at hx
        have := hr _ _ hx
        exact hA _ (by have := hS.1; omega)
  have hAr : ArrOfT s cA (.array ty) := fun N9 z9 => by
    obtain ⟨-, k9, hk9, cm9, hkk9⟩ := (hO 0 0 0).1
    exact ⟨(fun q hq => by cases hq), k9, hk9, cm9, hkk9⟩
  have hK2 : va_K D cl (tys ++ [(cA, .array ty)]) s := ⟨hK.1, fun k9 x hx => by
    by_cases hl : k9 < tys.length
    · rw [List.getElem?_append_left hl] at hx
      exact hK.2 k9 x hx
    · rw [List.getElem?_append_right (by omega)] at hx
      have h0 : k9 - tys.length < 1 := (List.getElem?_eq_some_iff.mp hx).1
      rw [show k9 - tys.length = 0 by omega] at hx
      cases hx
      exact ⟨hAr, fA⟩⟩
  obtain ⟨t, a1, b1⟩ := kk H.size (fun i => H.size + 1 + i) cA F.heap (fun i j _ _ h => by have h9 : H.size + 1 + i = H.size + 1 + j := h; omega) hnl hK2 (by rw [← vr_rows hnm]; exact vr_lay hP2) (by rw [← vr_rows hnm]; exact vr_layD hD2) ⟨by rw [f1]; have := hS.1; omega, fun x h1 h2 => (hold x (Nat.lt_of_lt_of_le h1 hS.1)).trans (hS.2.1 x h1 h2), hS.2.2⟩ F rfl X'
  refine ⟨t, step t ?_, b1⟩
  have e : T.heap.size = H.size := by rw [hT]
  rw [e]
  exact a1
end VGM
/-! ===== END ===== -/
end
section
/-! new int[n][m], new long[n][m] -/
/-- numbers from a on, n of them, packed -/
noncomputable def zseq (a n : Nat) : Nat := Nat.rec (motive := fun _ => Nat) 0 (fun i x => zup 40 x i (Nat.add a i)) n
theorem zseq_wd (a : Nat) : ∀ (n i : Nat), i < n → a + n < 2 ^ 40 → zwd 40 (zseq a n) i = a + i
  | 0, i, h, _ => absurd h (by omega)
  | n + 1, i, h, hb => by
    show zwd 40 (zup 40 (zseq a n) n (a + n)) i = a + i
    by_cases q : i = n
    · subst q
      rw [zwd_up_same _ _ _ _ (by omega)]
    · rw [zwd_up_ne _ _ _ _ _ (by omega) (fun z => q z.symm)]
      exact zseq_wd a n i (by omega) (by omega)
noncomputable def zrow {d : Nat} (ki m : Nat) (n : Nat) : zH d → (zH d → Bool) → Bool := Nat.rec (motive := fun _ => zH d → (zH d → Bool) → Bool) (fun h k => k h) (fun _ r h k => zmk h m (ki, m, 0) (fun _ h => r h k)) n
theorem zrow_t [zCh] {d : Nat} {cA : Nat → ClassId} {ki m : Nat} {e : va_E} (he : ∀ ad, zCell cA ad (ki, m, 0) e) : ∀ (n : Nat) (h : zH d) (ws : va_W) (qs : List Nat) {k : zH d → Bool}, qs.length = n → zHp cA h ws → zrow ki m n h k = true → n ≤ h.2.2.1 ∧ n * m ≤ h.2.2.2 ∧ ∃ h' : zH d, k h' = true ∧ zHp cA h' (ws ++ qs.map (fun a => (a, e))) ∧ h'.2.2.1 = h.2.2.1 - n ∧ h'.2.2.2 = h.2.2.2 - n * m
  | 0, h, ws, [], k, _, hH, hk => ⟨Nat.zero_le _, by omega, h, hk, by simpa using hH, rfl, by simp⟩
  | n + 1, h, ws, q :: qs, k, hl, hH, hk => by
    have hk : zmk h m (ki, m, 0) (fun _ h => zrow ki m n h k) = true := hk
    obtain ⟨h1, h2, h3, hk⟩ := zmk_t hk
    have hH2 := zHp_push (q := q) (e := e) (c := (ki, m, 0)) (b := (h.2.2.1 - 1, h.2.2.2 - m)) hH h3 (he _)
    obtain ⟨g1, g2, h', g3, g4, g5, g6⟩ := zrow_t he n _ (ws ++ [(q, e)]) qs (by simpa using hl) hH2 hk
    have g1 : n ≤ h.2.2.1 - 1 := g1
    have g2 : n * m ≤ h.2.2.2 - m := g2
    have g5 : h'.2.2.1 = h.2.2.1 - 1 - n := g5
    have g6 : h'.2.2.2 = h.2.2.2 - m - n * m := g6
    refine ⟨by omega, by rw [Nat.succ_mul]; omega, h', g3, ?_, by omega, by rw [Nat.succ_mul]; omega⟩
    rw [List.map_cons, List.append_cons]
    exact g4
section OPS
variable {d : Nat} {X : zM} {fr : Nat} {P : zP d} {pc : Nat} {k : zK d}
noncomputable def xmna (kc ki : Nat) (k : zK d) : zK d := fun L S h => zpI S (fun m S => zpI S (fun n S => cond (Nat.ble n 1000) (cond (Nat.ble m 1000) (zmk h n (kc, n, 0) (fun r h => zrow ki m n h (fun h => Prod.rec (motive := fun _ => Bool) (fun t u => zF (fun x => zsetK d t (Nat.pred r) (kc, n, x) (fun t => k L (zR r :: S) (t, u))) (zseq (Nat.succ r) n)) h))) false) false))
theorem sm_mna [G : zGh] {kc ki index : Nat} {ty : FieldType} (h3 : 3 ≤ kc) (h16 : kc < 8) (hTc : ∀ cA, (zty cA)[kc]? = some (cA kc, .array ty)) (hTi : ∀ cA, (zty cA)[ki]? = some (cA ki, ty)) (hprim : ∀ (s : State) (c : ClassId), va_RA s c ty → s.vm.findClass (FieldType.array ty).toString = some c) (hcb0 : componentBytes ty ≤ 8) (hdf : fits ty (defaultValue ty) = true) (hdd : (defaultValue ty).isDefault = true)
    (hz : ∀ m : Nat, m < 2147483648 → ∃ z : vp_A, (∀ c : ClassId, Jvm.Free.Multi.innerC c m (defaultValue ty) = vp_cell c z) ∧ ∀ [zCh] (cA : Nat → ClassId) (ad : zA), zCell cA ad (ki, m, 0) (.inl (cA ki, z)))
    (hcl : Cond.classLink X.1 index ("[" ++ (FieldType.array ty).toString) ∈ ztbl) (harr : Cond.arrayClass ty ∈ ztbl) (hov : ∀ s, zEx s → va_AOA ty s) (hd40 : d ≤ 30) (dg : decode X.2.1 pc = .ok (.multianewarray index 2, 4)) (hs : zSim X fr P (pc + 4) k) : zSim X fr P pc (xmna kc ki k) := by
  intro Ch cA D ad0 A MC MS p l e s m args below meth c ls st H locs cells slots L S h Cx hk R0
  obtain ⟨ws, hHp, hpre, hP, hD, hS, hL, hst, hcb, hsb⟩ := R0
  obtain ⟨mm, S, rfl, hk1⟩ := zpI_t hk
  obtain ⟨n, S, rfl, hk2⟩ := zpI_t hk1
  obtain ⟨im, st, rfl, him, hst1⟩ := zRepL_I hst
  obtain ⟨i, st, rfl, hi, hst2⟩ := zRepL_I hst1
  have hk2 : cond (Nat.ble n 1000) (cond (Nat.ble mm 1000) (zmk h n (kc, n, 0) (fun r h => zrow ki mm n h (fun h => Prod.rec (motive := fun _ => Bool) (fun t u => zF (fun x => zsetK d t (Nat.pred r) (kc, n, x) (fun t => k L (zR r :: S) (t, u))) (zseq (Nat.succ r) n)) h))) false) false = true := hk2
  cases hb1 : Nat.ble n 1000
  · rw [hb1] at hk2; cases hk2
  · cases hb2 : Nat.ble mm 1000
    · rw [hb1, hb2] at hk2; cases hk2
    · rw [hb1, hb2, cond_true, cond_true] at hk2
      have hn := Nat.le_of_ble_eq_true hb1
      have hm := Nat.le_of_ble_eq_true hb2
      obtain ⟨g1, g2, g3, hk3⟩ := zmk_t hk2
      obtain ⟨a1, a2⟩ := zi_len hi.1 (by omega)
      obtain ⟨c1, c2⟩ := zi_len him.1 (by omega)
      obtain ⟨z, hz1, hz2⟩ := hz mm (by omega)
      -- how many rows there is room for
      have hroom : n ≤ h.2.2.1 - 1 ∧ n * mm ≤ h.2.2.2 - n := by
        have := zrow_t (cA := cA) (e := .inl (cA ki, z)) (fun ad => hz2 cA ad) n _ (ws ++ [(0, .inl (cA kc, n, .inr (.inr (.inr (.inr (fun _ => none))))))]) (List.replicate n 0) (List.length_replicate ..) (zHp_push hHp g3 (zCell_rk h3 h16 (by omega) (fun j _ => by rw [zwd_zero]; exact Or.inl ⟨by decide, Or.inl ⟨rfl, rfl⟩⟩))) hk3
        exact ⟨this.1, this.2.1⟩
      have hP0 : va_P D zcl (ws ++ va_pl [] (fun _ => (.inl (cA ki, z) : va_E))) H := by
        show va_P D zcl (ws ++ []) H
        rw [List.append_nil]
        exact hP
      have hD0 : va_D A (ws ++ va_pl [] (fun _ => (.inl (cA ki, z) : va_E))) := by
        show va_D A (ws ++ [])
        rw [List.append_nil]
        exact hD
      refine va_mna (ty := ty) (cy := cA ki) (z := z) (N' := n) (K' := mm) Cx.1 Cx.2.1 Cx.2.2.2.1 (Cx.2.2.2.2.1 _ hcl) (hov _ Cx.2.2.2.2.2.2.2.2.2.2.2) (Cx.2.2.2.2.1 _ harr) (hprim s _ (Cx.2.2.2.2.2.1.2 ki _ (hTi cA)).2) Cx.2.2.2.2.2.1 hP0 hD0 hS Cx.2.2.2.2.2.2.1 a1 c1 a2 c2 (by omega) (Nat.le_trans (Nat.mul_le_mul hm hcb0) (by decide)) (by omega) hdf hdd (by show cells + (1 + n) ≤ MC; omega) (by show slots + (n + n * mm) ≤ MS; omega) hz1 dg (fun q r cA1 H1 _ _ hK1 hP1 hD1 hS1 => ?_)
      have hce : cA1 = cA kc := va_RA_inj (va_K_last hK1) (Cx.2.2.2.2.2.1.2 kc _ (hTc cA)).2
      subst hce
      have hrows : va_pl ([] ++ (List.range n).map r) (vr_up (fun _ => (.inl (cA ki, z) : va_E)) ((List.range n).map r) (.inl (cA ki, z))) = ((List.range n).map r).map (fun a => (a, (.inl (cA ki, z) : va_E))) := by
        unfold va_pl
        rw [List.nil_append]
        apply List.map_congr_left
        intro a ha
        rw [vr_up_in ha]
      rw [hrows] at hP1 hD1
      -- the outer one without its rows, the rows, the outer one with them
      have hq0 := zHp_push (q := q) (e := .inl (cA kc, n, .inr (.inr (.inr (.inr (fun _ => none)))))) (c := (kc, n, 0)) (b := (h.2.2.1 - 1, h.2.2.2 - n)) hHp g3 (zCell_rk h3 h16 (by omega) (fun j _ => by rw [zwd_zero]; exact Or.inl ⟨by decide, Or.inl ⟨rfl, rfl⟩⟩))
      obtain ⟨-, -, h', hk4, hH2, e1, e2⟩ := zrow_t (cA := cA) (e := .inl (cA ki, z)) (fun ad => hz2 cA ad) n _ _ ((List.range n).map r) (by simp) hq0 hk3
      have e1 : h'.2.2.1 = h.2.2.1 - 1 - n := e1
      have e2 : h'.2.2.2 = h.2.2.2 - n - n * mm := e2
      have hk4 : zF (fun x => zsetK d h'.1 h.2.1 (kc, n, x) (fun t => k L (zR (h.2.1 + 1) :: S) (t, h'.2))) (zseq (h.2.1 + 1 + 1) n) = true := hk4
      rw [zF_eq, zsetK_eq] at hk4
      have hix : h.2.1 = ws.length := hHp.1.symm
      have hget : ((ws ++ [(q, (.inl (cA kc, n, .inr (.inr (.inr (.inr (fun _ => none))))) : va_E))]) ++ ((List.range n).map r).map (fun a => (a, (.inl (cA ki, z) : va_E))))[h.2.1]? = some (q, .inl (cA kc, n, .inr (.inr (.inr (.inr (fun _ => none)))))) := by
        rw [hix, List.getElem?_append_left (by simp), List.getElem?_concat_length]
      have hset : ((ws ++ [(q, (.inl (cA kc, n, .inr (.inr (.inr (.inr (fun _ => none))))) : va_E))]) ++ ((List.range n).map r).map (fun a => (a, (.inl (cA ki, z) : va_E)))).set h.2.1 (q, .inl (cA kc, n, .inr (.inr (.inr (.inr (fun i => if i < n then some (r i) else none)))))) = (ws ++ [(q, (.inl (cA kc, n, .inr (.inr (.inr (.inr (fun i => if i < n then some (r i) else none))))) : va_E))]) ++ ((List.range n).map r).map (fun a => (a, (.inl (cA ki, z) : va_E))) := by
        rw [hix, List.set_append_left _ _ (by simp), List.set_append_right _ _ (Nat.le_refl _), Nat.sub_self]
        rfl
      have hz4 := zad_set (cA := cA) (e' := .inl (cA kc, n, .inr (.inr (.inr (.inr (fun i => if i < n then some (r i) else none)))))) hget
      have hcn2 : ∀ j, j < n → h.2.1 + 1 + 1 + j < 549755813888 := by
        intro j hj
        have : h.2.1 < 2 ^ d := g3
        have h30 : 2 ^ d ≤ 2 ^ 30 := Nat.pow_le_pow_right (by decide) hd40
        have : (2 : Nat) ^ 30 + 4000 < 549755813888 := by decide
        omega
      have hcnt : h.2.1 + 2 + n < 2 ^ 40 := by
        have : h.2.1 < 2 ^ d := g3
        have h30 : 2 ^ d ≤ 2 ^ 30 := Nat.pow_le_pow_right (by decide) hd40
        have : (2 : Nat) ^ 30 + 2000 < 2 ^ 40 := by decide
        omega
      have hH3 := zHp_set hH2 hget (c' := (kc, n, zseq (h.2.1 + 1 + 1) n)) (zCell_rk (f := fun i => if i < n then some (r i) else none) h3 h16 (by omega) (fun j hj => by
        rw [zseq_wd _ _ _ hj (by omega)]
        show zRw _ _ (if j < n then some (r j) else none)
        rw [if_pos hj]
        refine Or.inl ⟨hcn2 j hj, Or.inr ⟨h.2.1 + 1 + j, r j, by omega, ?_, rfl⟩⟩
        show (List.map (fun q : Nat × va_E => q.1) _)[_]? = _
        rw [List.map_append, hix, List.getElem?_append_right (by simp), List.map_map, List.getElem?_map]
        have : ws.length + 1 + j - (List.map (fun q : Nat × va_E => q.1) (ws ++ [(q, (.inl (cA kc, n, .inr (.inr (.inr (.inr (fun _ => none))))) : va_E))])).length = j := by simp
        rw [this, List.getElem?_map, List.getElem?_range hj]
        rfl))
      rw [hset] at hH3 hz4
      have hp0 := zPre_push (cA := cA) ws q (.inl (cA kc, n, .inr (.inr (.inr (.inr (fun i => if i < n then some (r i) else none))))))
      have hp : zPre (zad cA ws) (zad cA ((ws ++ [(q, (.inl (cA kc, n, .inr (.inr (.inr (.inr (fun i => if i < n then some (r i) else none))))) : va_E))]) ++ ((List.range n).map r).map (fun a => (a, (.inl (cA ki, z) : va_E))))) := by
        refine zPre_trans hp0 ⟨⟨(((List.range n).map r).map (fun a => (a, (.inl (cA ki, z) : va_E)))).map (fun q => q.1), ?_⟩, rfl⟩
        show List.map (fun q : Nat × va_E => q.1) _ = List.map (fun q : Nat × va_E => q.1) _ ++ _
        rw [List.map_append]
      refine hs Ch cA D ad0 A MC MS p l e s m args below meth c ls _ H1 locs _ _ L _ _ Cx hk4 ⟨_, hH3, zPre_trans hpre hp, hP1, hD1, hS1, zLoc_mono hp hL, ⟨⟨some q, rfl, Or.inr ⟨h.2.1, q, rfl, ?_, rfl⟩⟩, zRepL_mono hp hst2⟩, ?_, ?_⟩
      · show (List.map (fun q : Nat × va_E => q.1) _)[_]? = _
        rw [List.getElem?_map, hix, List.getElem?_append_left (by simp), List.getElem?_concat_length]
        rfl
      · show cells + 1 + n + h'.2.2.1 ≤ MC
        omega
      · show slots + n + n * mm + h'.2.2.2 ≤ MS
        omega
theorem sm_mnaI [G : zGh] {index : Nat} (hcl : Cond.classLink X.1 index "[[I" ∈ ztbl) (harr : Cond.arrayClass .int ∈ ztbl) (hd40 : d ≤ 30) (dg : decode X.2.1 pc = .ok (.multianewarray index 2, 4)) (hs : zSim X fr P (pc + 4) k) : zSim X fr P pc (xmna 3 0 k) := sm_mna (ty := .int) (by decide) (by decide) (fun _ => rfl) (fun _ => rfl) (fun s c h => h) (by decide) rfl rfl (fun m hm => ⟨(m, .inl (fun _ => 0)), fun c => arrV_new c m (.int 0), fun cA ad => zCell_ik (by decide) hm (fun j _ => by rw [zwd_zero]; exact ⟨fun _ => rfl, fun q => absurd q (by omega)⟩)⟩) (by show Cond.classLink X.1 index ("[" ++ (FieldType.array .int).toString) ∈ ztbl; exact hcl) harr (fun _ h => h.2.2.2.1) hd40 dg hs
theorem sm_mnaJ [G : zGh] {index : Nat} (hcl : Cond.classLink X.1 index "[[J" ∈ ztbl) (harr : Cond.arrayClass .long ∈ ztbl) (hd40 : d ≤ 30) (dg : decode X.2.1 pc = .ok (.multianewarray index 2, 4)) (hs : zSim X fr P (pc + 4) k) : zSim X fr P pc (xmna 4 2 k) := sm_mna (ty := .long) (by decide) (by decide) (fun _ => rfl) (fun _ => rfl) (fun s c h => h) (by decide) rfl rfl (fun m hm => ⟨(m, .inr (.inl (fun _ => 0))), fun c => arrV_new c m (.long 0), fun cA ad => zCell_jk hm (fun j _ => by rw [zwd_zero]; exact ⟨fun _ => rfl, fun q => absurd q (by decide)⟩)⟩) (by show Cond.classLink X.1 index ("[" ++ (FieldType.array .long).toString) ∈ ztbl; exact hcl) harr (fun _ h => h.2.2.2.2.1) hd40 dg hs
end OPS
end
section
/-! arraycopy, the static arrays, switches -/
def zcp (b x0 x1 sp dp n : Nat) : Nat := Nat.xor x1 (Nat.shiftLeft (Nat.xor (Nat.mod (Nat.shiftRight x0 (Nat.mul b sp)) (Nat.pow 2 (Nat.mul b n))) (Nat.mod (Nat.shiftRight x1 (Nat.mul b dp)) (Nat.pow 2 (Nat.mul b n)))) (Nat.mul b dp))
theorem zcp_bit (b x0 x1 sp dp n t : Nat) : (zcp b x0 x1 sp dp n).testBit t = (x1.testBit t ^^ (decide (b * dp ≤ t) && ((decide (t - b * dp < b * n) && x0.testBit (b * sp + (t - b * dp))) ^^ (decide (t - b * dp < b * n) && x1.testBit (b * dp + (t - b * dp)))))) := by
  show (x1 ^^^ ((((x0 >>> (b * sp)) % 2 ^ (b * n)) ^^^ ((x1 >>> (b * dp)) % 2 ^ (b * n))) <<< (b * dp))).testBit t = _
  rw [Nat.testBit_xor, Nat.testBit_shiftLeft, Nat.testBit_xor, Nat.testBit_mod_two_pow, Nat.testBit_mod_two_pow, Nat.testBit_shiftRight, Nat.testBit_shiftRight]
theorem zcp_wd (b x0 x1 sp dp n j : Nat) : zwd b (zcp b x0 x1 sp dp n) j = if dp ≤ j ∧ j < dp + n then zwd b x0 (sp + (j - dp)) else zwd b x1 j := by
  have hr : (if dp ≤ j ∧ j < dp + n then zwd b x0 (sp + (j - dp)) else zwd b x1 j) < 2 ^ b := by
    split <;> exact zwd_lt _ _ _
  refine zwd_ext (zwd_lt _ _ _) hr (fun t ht => ?_)
  rw [zwd_bit _ _ _ _ ht, zcp_bit]
  by_cases h : dp ≤ j ∧ j < dp + n
  · rw [if_pos h, zwd_bit _ _ _ _ ht]
    obtain ⟨i, rfl⟩ : ∃ i, j = dp + i := ⟨j - dp, by omega⟩
    have h1 : b * dp ≤ b * (dp + i) + t := by rw [Nat.mul_add]; omega
    have h2 : b * (dp + i) + t - b * dp = b * i + t := by rw [Nat.mul_add]; omega
    have h3 : b * i + t < b * n := by
      have : b * (i + 1) ≤ b * n := Nat.mul_le_mul_left b (by omega)
      rw [Nat.mul_add, Nat.mul_one] at this
      omega
    have h4 : b * dp + (b * i + t) = b * (dp + i) + t := by rw [Nat.mul_add]; omega
    have h5 : b * sp + (b * i + t) = b * (sp + (dp + i - dp)) + t := by rw [show dp + i - dp = i by omega, Nat.mul_add]; omega
    rw [h2, h4, h5]
    simp [h1, h3]
    cases x1.testBit (b * (dp + i) + t) <;> cases x0.testBit (b * (sp + i) + t) <;> rfl
  · rw [if_neg h, zwd_bit _ _ _ _ ht]
    by_cases h6 : j < dp
    · have : b * (j + 1) ≤ b * dp := Nat.mul_le_mul_left b (by omega)
      rw [Nat.mul_add, Nat.mul_one] at this
      have h1 : ¬ b * dp ≤ b * j + t := by omega
      simp [h1]
    · have : b * (dp + n) ≤ b * j := Nat.mul_le_mul_left b (by omega)
      rw [Nat.mul_add] at this
      have h1 : ¬ b * j + t - b * dp < b * n := by omega
      simp [h1]
theorem znfw : nativeFrameWords "java/lang/System" "arraycopy" 5 = 7 := by decide
section OPS
variable {d : Nat} {X : zM} {fr : Nat} {P : zP d} {pc : Nat} {k : zK d}
noncomputable def xcpy (kc b : Nat) (k : zK d) : zK d := fun L S h => zpI S (fun n S => zpI S (fun dp S => zpR S (fun r1 S => zpI S (fun sp S => zpR S (fun r0 S => zle4 S (cond (Nat.ble n 100000) (cond (Nat.ble dp 100000) (cond (Nat.ble sp 100000) (zat h r0 (fun _ _ _ kd0 len0 x0 => zat h r1 (fun t u j kd1 len1 x1 => cond (Nat.beq kd0 kc) (cond (Nat.beq kd1 kc) (cond (Nat.ble (Nat.add sp n) len0) (cond (Nat.ble (Nat.add dp n) len1) (zF (fun y => zsetK d t j (kd1, len1, y) (fun t => k L S (t, u))) (zcp b x0 x1 sp dp n)) false) false) false) false))) false) false) false))))))
theorem sm_copyI [G : zGh] {index : Nat} (hlink : Cond.methodLink X.1 index arraycopyName ∈ ztbl) (hnat : Cond.native arraycopyName ∈ ztbl) (hstat : Cond.static arraycopyName ∈ ztbl) (hini : Cond.initialized "java/lang/System" ∈ ztbl) (hfr : 1 ≤ fr) (dg : decode X.2.1 pc = .ok (.invokestatic index, 3)) (hs : zSim X fr P (pc + 3) k) : zSim X fr P pc (xcpy 0 40 k) := by
  intro Ch cA D ad0 A MC MS p l e s m args below meth c ls st H locs cells slots L S h Cx hk R0
  obtain ⟨ws, hHp, hpre, hP, hD, hS, hL, hst, hcb, hsb⟩ := R0
  obtain ⟨n, S, rfl, hk1⟩ := zpI_t hk
  obtain ⟨dp, S, rfl, hk2⟩ := zpI_t hk1
  obtain ⟨r1, S, rfl, hk3⟩ := zpR_t hk2
  obtain ⟨sp, S, rfl, hk4⟩ := zpI_t hk3
  obtain ⟨r0, S, rfl, hk5⟩ := zpR_t hk4
  obtain ⟨jn, st, rfl, hn, hst1⟩ := zRepL_I hst
  obtain ⟨jd, st, rfl, hdp, hst2⟩ := zRepL_I hst1
  obtain ⟨o1, st, rfl, ho1, hst3⟩ := zRepL_R hst2
  obtain ⟨js, st, rfl, hsp, hst4⟩ := zRepL_I hst3
  obtain ⟨o0, st, rfl, ho0, hst5⟩ := zRepL_R hst4
  obtain ⟨h4, hk6⟩ := zle4_t hk5
  have hk6 : cond (Nat.ble n 100000) (cond (Nat.ble dp 100000) (cond (Nat.ble sp 100000) (zat h r0 (fun _ _ _ kd0 len0 x0 => zat h r1 (fun t u j kd1 len1 x1 => cond (Nat.beq kd0 0) (cond (Nat.beq kd1 0) (cond (Nat.ble (Nat.add sp n) len0) (cond (Nat.ble (Nat.add dp n) len1) (zF (fun y => zsetK d t j (kd1, len1, y) (fun t => k L S (t, u))) (zcp 40 x0 x1 sp dp n)) false) false) false) false))) false) false) false = true := hk6
  cases b1 : Nat.ble n 100000
  · rw [b1] at hk6; cases hk6
  cases b2 : Nat.ble dp 100000
  · rw [b1, b2] at hk6; cases hk6
  cases b3 : Nat.ble sp 100000
  · rw [b1, b2, b3] at hk6; cases hk6
  rw [b1, b2, b3, cond_true, cond_true, cond_true] at hk6
  obtain ⟨i0, kd0, len0, x0, rfl, hg0, hk7⟩ := zat_t hk6
  obtain ⟨i1, kd1, len1, x1, rfl, hg1, hk8⟩ := zat_t hk7
  have hk9 : cond (Nat.beq kd0 0) (cond (Nat.beq kd1 0) (cond (Nat.ble (Nat.add sp n) len0) (cond (Nat.ble (Nat.add dp n) len1) (zF (fun y => zsetK d h.1 i1 (kd1, len1, y) (fun t => k L S (t, h.2))) (zcp 40 x0 x1 sp dp n)) false) false) false) false = true := hk8
  cases b4 : Nat.beq kd0 0
  · rw [b4] at hk9; cases hk9
  cases b5 : Nat.beq kd1 0
  · rw [b4, b5] at hk9; cases hk9
  cases b6 : Nat.ble (Nat.add sp n) len0
  · rw [b4, b5, b6] at hk9; cases hk9
  cases b7 : Nat.ble (Nat.add dp n) len1
  · rw [b4, b5, b6, b7] at hk9; cases hk9
  rw [b4, b5, b6, b7, cond_true, cond_true, cond_true, cond_true, zF_eq, zsetK_eq] at hk9
  have e0 := Nat.eq_of_beq_eq_true b4
  have e1 := Nat.eq_of_beq_eq_true b5
  subst e0
  subst e1
  obtain ⟨a0, en0, rfl, hw0, hc0⟩ := zat_w hHp ho0
  obtain ⟨a1, en1, rfl, hw1, hc1⟩ := zat_w hHp ho1
  rw [hg0] at hc0
  rw [hg1] at hc1
  obtain ⟨hl0, f0, rfl, hf0⟩ := zCell_i hc0 (by decide)
  obtain ⟨hl1, f1, rfl, hf1⟩ := zCell_i hc1 (by decide)
  obtain ⟨n1, n2⟩ := zi_len hn.1 (Nat.le_of_ble_eq_true b1)
  obtain ⟨d1, d2⟩ := zi_len hdp.1 (Nat.le_of_ble_eq_true b2)
  obtain ⟨s1, s2⟩ := zi_len hsp.1 (Nat.le_of_ble_eq_true b3)
  have hle0 : sp + n ≤ len0 := Nat.le_of_ble_eq_true b6
  have hle1 : dp + n ≤ len1 := Nat.le_of_ble_eq_true b7
  have hcat := zcat hst5
  refine va_copyi (ty := .int) Cx.1 Cx.2.1 (by rw [Cx.2.2.1]; exact hL.2.choose_spec.1.1.symm) Cx.2.2.2.1 (Cx.2.2.2.2.1 _ hlink) (Cx.2.2.2.2.1 _ hnat) (Cx.2.2.2.2.1 _ hstat) (Cx.2.2.2.2.1 _ hini) Cx.2.2.2.2.2.1 hP hD hS i0 i1 0 0 hw0 hw1 rfl rfl rfl s1 d1 n1 (by rw [s2, n2]; exact hle0) (by rw [d2, n2]; exact hle1) (fun _ _ => rfl) hfr (by show (st.map fun v => v.category).sum + (nativeFrameWords "java/lang/System" "arraycopy" 5 + 11) ≤ 64 * fr; rw [znfw]; omega) dg (fun H1 locs1 hP1 hD1 hS1 => ?_)
  have hz := zad_set (cA := cA) (e' := .inl (cA 0, len1, .inl (va_cpy f0 f1 js.toNatClampNeg jd.toNatClampNeg jn.toNatClampNeg))) hw1
  refine hs Ch cA D ad0 A MC MS p l e s m args below meth c ls _ H1 locs1 cells slots L _ _ Cx hk9 ⟨_, zHp_set hHp hw1 (zCell_ik (by decide) hl1 (fun j hj => ?_)), by rw [hz]; exact hpre, hP1, hD1, hS1, by rw [hz]; exact hL, by rw [hz]; exact hst5, hcb, hsb⟩
  rw [zcp_wd]
  rw [s2, d2, n2]
  unfold va_cpy
  by_cases q : dp ≤ j ∧ j < dp + n
  · rw [if_pos q, if_pos q]
    exact hf0 _ (by omega)
  · rw [if_neg q, if_neg q]
    exact hf1 _ hj
/-- a static array's element by a local -/
noncomputable def ztabS (tb : List Nat) : Nat → (Nat → Bool) → Bool := List.rec (motive := fun _ => Nat → (Nat → Bool) → Bool) (fun _ _ => false) (fun v _ r a k => Nat.rec (motive := fun _ => Bool) (k v) (fun m _ => r m k) a) tb
theorem ztabS_t : ∀ (tb : List Nat) (a : Nat) {k : Nat → Bool}, ztabS tb a k = true → ∃ v, tb[a]? = some v ∧ k v = true
  | [], a, k, h => by cases h
  | v :: tb, 0, k, h => ⟨v, rfl, h⟩
  | v :: tb, a + 1, k, h => by
    obtain ⟨w, h1, h2⟩ := ztabS_t tb a (k := k) h
    exact ⟨w, by simpa using h1, h2⟩
/-- a list as one number, 32 digits each; are all small; how long -/
noncomputable def zqk (tb : List Nat) : Nat := List.rec (motive := fun _ => Nat) 0 (fun v _ r => Nat.add v (Nat.mul 4294967296 r)) tb
noncomputable def zqo (tb : List Nat) : Bool := List.rec (motive := fun _ => Bool) true (fun v _ r => cond (Nat.ble 4294967296 v) false r) tb
noncomputable def zql (tb : List Nat) : Nat := List.rec (motive := fun _ => Nat) 0 (fun _ _ r => Nat.add r 1) tb
theorem zql_eq : ∀ tb : List Nat, zql tb = tb.length
  | [] => rfl
  | _ :: tb => congrArg (fun n => n + 1) (zql_eq tb)
theorem zqk_at : ∀ (tb : List Nat) (a : Nat), zqo tb = true → a < tb.length → tb[a]? = some (zwd 32 (zqk tb) a)
  | [], a, _, ha => by simp at ha
  | v :: tb, a, h, ha => by
    have h : cond (Nat.ble 4294967296 v) false (zqo tb) = true := h
    cases hb : Nat.ble 4294967296 v
    case true => rw [hb] at h; cases h
    rw [hb, cond_false] at h
    have hv : v < 4294967296 := by
      apply Nat.lt_of_not_le
      intro q
      rw [Nat.ble_eq_true_of_le q] at hb
      cases hb
    have e1 : zqk (v :: tb) = v + 4294967296 * zqk tb := rfl
    cases a with
    | zero =>
      show some v = some (((zqk (v :: tb)) >>> (32 * 0)) % 2 ^ 32)
      rw [e1, Nat.mul_zero, Nat.shiftRight_zero, show (2 : Nat) ^ 32 = 4294967296 from rfl, Nat.add_mul_mod_self_left, Nat.mod_eq_of_lt hv]
    | succ a =>
      have key := zqk_at tb a h (by simpa using ha)
      have e2 : zwd 32 (zqk (v :: tb)) (a + 1) = zwd 32 (zqk tb) a := by
        show ((zqk (v :: tb)) >>> (32 * (a + 1))) % 2 ^ 32 = ((zqk tb) >>> (32 * a)) % 2 ^ 32
        rw [e1, show 32 * (a + 1) = 32 + 32 * a by omega, Nat.shiftRight_add, Nat.shiftRight_eq_div_pow _ 32, show (2 : Nat) ^ 32 = 4294967296 from rfl, Nat.add_mul_div_left _ _ (by decide : 0 < 4294967296), Nat.div_eq_of_lt hv, Nat.zero_add]
      rw [e2]
      simpa using key
noncomputable def ztab (tb : List Nat) (a : Nat) (k : Nat → Bool) : Bool := cond (zqo tb) (cond (Nat.ble (Nat.succ a) (zql tb)) (zF k (zwd 32 (zqk tb) a)) false) (ztabS tb a k)
theorem ztab_t (tb : List Nat) (a : Nat) {k : Nat → Bool} (h : ztab tb a k = true) : ∃ v, tb[a]? = some v ∧ k v = true := by
  have h : cond (zqo tb) (cond (Nat.ble (Nat.succ a) (zql tb)) (zF k (zwd 32 (zqk tb) a)) false) (ztabS tb a k) = true := h
  cases h1 : zqo tb
  · rw [h1, cond_false] at h
    exact ztabS_t tb a h
  · rw [h1, cond_true] at h
    cases h2 : Nat.ble (Nat.succ a) (zql tb)
    · rw [h2] at h; cases h
    · rw [h2, cond_true, zF_eq] at h
      have h3 := Nat.le_of_ble_eq_true h2
      rw [zql_eq] at h3
      exact ⟨_, zqk_at tb a h1 h3, h⟩
noncomputable def xst (tb : List Nat) (n : Nat) (k : zK d) : zK d := fun L S h => znth n L (fun v => Sum.rec (motive := fun _ => Bool) (fun a => ztab tb a (fun w => k L (zI w :: S) h)) (fun _ => false) v)
theorem sm_st [G : zGh] {C nm : String} {tb : List Nat} {n index l2 : Nat} (htb : tb.length = 7) (hst1 : ∀ (A : Nat → Prop) (s : State), zStat A s s.heap → zSt1 C nm tb A s s.heap) (hlink : Cond.fieldLink X.1 index C nm "[I" ∈ ztbl) (dg1 : decode X.2.1 pc = .ok (.getstatic index, 3)) (row : ∀ {p : Program} {l : Launch} {e : Env} {R : Room} {s : State} {m : MethodId} {args : Array Value} {below : List Frame} {meth : Method} {c : Code} {H : Heap} {locs : List Loc} {cells slots : Nat} {Q : State → Prop} {ls : Array Slot} {rest : List Value} {x : Int32}, p.tables.exec = Jvm.exec → c.code = X.2.1 → ls[n]? = some (.val (.int x)) → W p l e R s m args below meth c H locs cells slots Q (F0 m (pc + 3 + l2) ls (.int x :: rest)) → W p l e R s m args below meth c H locs cells slots Q (F0 m (pc + 3) ls rest)) (dg3 : decode X.2.1 (pc + 3 + l2) = .ok (.iaload, 1)) (hs : zSim X fr P (pc + 3 + l2 + 1) k) : zSim X fr P pc (xst tb n k) := by
  intro Ch cA D ad0 A MC MS p l e s m args below meth c ls st H locs cells slots L S h Cx hk R0
  obtain ⟨ws, hHp, hpre, hP, hD, hS, hL, hst, hcb, hsb⟩ := R0
  obtain ⟨v, hv, hk2⟩ := znth_t n hk
  match v, hv, hk2 with
  | .inl a, hv, hk2 =>
    obtain ⟨x, hx, i, rfl, hi⟩ := zLoc_at hL hv (by intro q; cases q)
    have hk2 : ztab tb a (fun w => k L (zI w :: S) h) = true := hk2
    obtain ⟨w, hw, hk3⟩ := ztab_t tb a hk2
    obtain ⟨t, hZ, f, hT, hf⟩ := hst1 A s Cx.2.2.2.2.2.2.2.2.2.2.1
    have ha : a < 7 := by rw [← htb]; exact (List.getElem?_eq_some_iff.mp hw).1
    obtain ⟨g1, g2, g3⟩ := zi_idx (len := 7) hi.1 (by decide) (zble_lt ha)
    obtain ⟨iv, hfv, hiv⟩ := hf a w hw
    refine va_gets Cx.1 Cx.2.1 hZ hS Cx.2.2.2.1 (Cx.2.2.2.2.1 _ hlink) (fun _ h => h) dg1 ?_
    refine row Cx.1 Cx.2.1 hx ?_
    refine va_ti (v := .int iv) Cx.1 Cx.2.1 hT hS g1 (by rw [g2]; exact hfv) dg3 ?_
    exact hs Ch cA D ad0 A MC MS p l e s m args below meth c ls _ H locs cells slots L _ h Cx hk3 ⟨ws, hHp, hpre, hP, hD, hS, hL, ⟨⟨iv, rfl, zIs_e hiv⟩, hst⟩, hcb, hsb⟩
/-- a switch over 0 .. n -/
noncomputable def zsw (ks : List (zK d)) (kd : zK d) (L S : List zV) (h : zH d) : Nat → Bool := List.rec (motive := fun _ => Nat → Bool) (fun _ => kd L S h) (fun k _ r a => Nat.rec (motive := fun _ => Bool) (k L S h) (fun m _ => r m) a) ks
theorem zsw_t {kd : zK d} {L S : List zV} {h : zH d} : ∀ (ks : List (zK d)) (a : Nat), zsw ks kd L S h a = true → (∃ k, ks[a]? = some k ∧ k L S h = true) ∨ (ks.length ≤ a ∧ kd L S h = true)
  | [], a, h => Or.inr ⟨Nat.zero_le _, h⟩
  | k :: ks, 0, h => Or.inl ⟨k, rfl, h⟩
  | k :: ks, a + 1, h => by
    rcases zsw_t ks a h with ⟨k', h1, h2⟩ | ⟨h1, h2⟩
    · exact Or.inl ⟨k', by simpa using h1, h2⟩
    · exact Or.inr ⟨by simp; omega, h2⟩
noncomputable def xtsw (ks : List (zK d)) (kd : zK d) : zK d := fun L S h => zpI S (fun a S => cond (Nat.ble 4294967296 a) false (zsw ks kd L S h a))
theorem sm_tsw [G : zGh] {n len tdf : Nat} {dflt hi : Int} {offs : Array Int} {ks : List (zK d)} {kd : zK d} {tg : List Nat} (hhi : hi = (n : Int)) (hn : n < 1000) (dg : decode X.2.1 pc = .ok (.tableswitch dflt 0 hi offs, len)) (hl : ks.length = n + 1) (hoff : ∀ i, i < n + 1 → ∃ off t, offs[i]? = some off ∧ tg[i]? = some t ∧ (pc : Int) + off = (t : Int)) (hdf : (pc : Int) + dflt = (tdf : Int)) (hks : ∀ (i : Nat) (k : zK d) (t : Nat), ks[i]? = some k → tg[i]? = some t → zSim X fr P t k) (hkd : zSim X fr P tdf kd) : zSim X fr P pc (xtsw ks kd) := by
  subst hhi
  intro Ch cA D ad0 A MC MS p l e s m args below meth c ls st H locs cells slots L S h Cx hk R0
  obtain ⟨ws, hHp, hpre, hP, hD, hS, hL, hst, hcb, hsb⟩ := R0
  obtain ⟨a, S, rfl, hk1⟩ := zpI_t hk
  obtain ⟨x, st, rfl, hx, hst1⟩ := zRepL_I hst
  have hk1 : cond (Nat.ble 4294967296 a) false (zsw ks kd L S h a) = true := hk1
  cases hb : Nat.ble 4294967296 a
  · rw [hb, cond_false] at hk1
    have e1 := hx.1 (zble_f hb)
    rcases zsw_t ks a hk1 with ⟨k', h1, h2⟩ | ⟨h1, h2⟩
    · have ha : a < n + 1 := by rw [← hl]; exact (List.getElem?_eq_some_iff.mp h1).1
      have hxi : x.toInt = (a : Int) := by
        rcases zi_cases x with ⟨c1, c2⟩ | ⟨c1, c2⟩ <;> omega
      obtain ⟨off, t, o1, o2, o3⟩ := hoff a ha
      refine lv_tableIn (off := off) (tgt := t) Cx.1 Cx.2.1 dg (by omega) (by omega) (by rw [hxi, show ((a : Int) - 0).toNat = a by omega]; exact o1) o3 ?_
      exact hks a k' t h1 o2 Ch cA D ad0 A MC MS p l e s m args below meth c ls _ H locs cells slots L _ h Cx h2 ⟨ws, hHp, hpre, hP, hD, hS, hL, hst1, hcb, hsb⟩
    · refine lv_tableOut (tgt := tdf) Cx.1 Cx.2.1 dg ?_ hdf (hkd Ch cA D ad0 A MC MS p l e s m args below meth c ls _ H locs cells slots L _ h Cx h2 ⟨ws, hHp, hpre, hP, hD, hS, hL, hst1, hcb, hsb⟩)
      have hlt := zi_lt x
      rcases zi_cases x with ⟨c1, c2⟩ | ⟨c1, c2⟩ <;> omega
  · rw [hb] at hk1; cases hk1
end OPS
end
section
/-! a switch, its targets by a list -/
def ztg (offs : Array Int) (tg : List Nat) (pc i : Nat) : Bool := match offs[i]?, tg[i]? with
  | some off, some t => decide ((pc : Int) + off = (t : Int))
  | _, _ => false
theorem ztg_t {offs : Array Int} {tg : List Nat} {pc i : Nat} (h : ztg offs tg pc i = true) : ∃ off t, offs[i]? = some off ∧ tg[i]? = some t ∧ (pc : Int) + off = (t : Int) := by
  unfold ztg at h
  split at h
  · next off t h1 h2 => exact ⟨off, t, h1, h2, of_decide_eq_true h⟩
  · cases h
section OPS
variable {d : Nat} {X : zM} {fr : Nat} {P : zP d} {pc : Nat} {k : zK d}
theorem sm_tsw2 [G : zGh] {n len tdf : Nat} {dflt hi : Int} {offs : Array Int} {ks : List (zK d)} {kd : zK d} (tg : List Nat) (hhi : hi = (n : Int)) (hn : n < 1000) (dg : decode X.2.1 pc = .ok (.tableswitch dflt 0 hi offs, len)) (hl : ks.length = n + 1) (hoff : (List.range (n + 1)).all (fun i => ztg offs tg pc i) = true) (hdf : (pc : Int) + dflt = (tdf : Int)) (hkd : zSim X fr P tdf kd) (hks : ∀ (i : Nat) (k : zK d) (t : Nat), ks[i]? = some k → tg[i]? = some t → zSim X fr P t k) : zSim X fr P pc (xtsw ks kd) := sm_tsw hhi hn dg hl (fun i hi => ztg_t (List.all_eq_true.mp hoff i (List.mem_range.mpr hi))) hdf hks hkd
end OPS
end
section
/-! words and numbers, by program -/
theorem wd_1064 : (Jvm.Cond.fieldLink "PrimeBlocksModel" (347 : Nat) "PrimeBlocksModel" "taped" "I") ∈ ztbl := zmemP5 104 (by first | exact rfl | decide +kernel) (by first | exact rfl | decide +kernel)
theorem wd_1066 : (Jvm.Cond.fieldLink "PrimeBlocksModel" (356 : Nat) "PrimeBlocksModel" "fault" "I") ∈ ztbl := zmemP5 106 (by first | exact rfl | decide +kernel) (by first | exact rfl | decide +kernel)
theorem wd_1068 : (Jvm.Cond.fieldLink "PrimeBlocksModel" (361 : Nat) "PrimeBlocksModel" "withins" "I") ∈ ztbl := zmemP5 108 (by first | exact rfl | decide +kernel) (by first | exact rfl | decide +kernel)
theorem wd_1220 : (Jvm.Cond.methodLink "PrimeBlocksModel" (287 : Nat) ({ cls := "PrimeBlocksModel", name := "isPart", desc := "(I)Z" } : Jvm.MethodName)) ∈ ztbl := zmemP6 20 (by first | exact rfl | decide +kernel) (by first | exact rfl | decide +kernel)
theorem wd_1222 : (Jvm.Cond.instanceMethod ({ cls := "PrimeBlocksModel", name := "isPart", desc := "(I)Z" } : Jvm.MethodName)) ∈ ztbl := zmemP6 22 (by first | exact rfl | decide +kernel) (by first | exact rfl | decide +kernel)
theorem wd_1223 : (Jvm.Cond.code ({ cls := "PrimeBlocksModel", name := "isPart", desc := "(I)Z" } : Jvm.MethodName) prog_11_method_33_code (2 : Nat) (Option.some Jvm.ClassFile.FieldType.boolean)) ∈ ztbl := zmemP6 23 (by first | exact rfl | decide +kernel) (by first | exact rfl | decide +kernel)
theorem wd_1228 : (Jvm.Cond.methodLink "PrimeBlocksModel" (295 : Nat) ({ cls := "PrimeBlocksModel", name := "turned", desc := "(I)I" } : Jvm.MethodName)) ∈ ztbl := zmemP6 28 (by first | exact rfl | decide +kernel) (by first | exact rfl | decide +kernel)
theorem wd_1230 : (Jvm.Cond.instanceMethod ({ cls := "PrimeBlocksModel", name := "turned", desc := "(I)I" } : Jvm.MethodName)) ∈ ztbl := zmemP6 30 (by first | exact rfl | decide +kernel) (by first | exact rfl | decide +kernel)
theorem wd_1231 : (Jvm.Cond.code ({ cls := "PrimeBlocksModel", name := "turned", desc := "(I)I" } : Jvm.MethodName) prog_11_method_36_code (3 : Nat) (Option.some Jvm.ClassFile.FieldType.int)) ∈ ztbl := zmemP6 31 (by first | exact rfl | decide +kernel) (by first | exact rfl | decide +kernel)
theorem wd_1232 : (Jvm.Cond.methodLink "PrimeBlocksModel" (291 : Nat) ({ cls := "PrimeBlocksModel", name := "isTurned", desc := "(II)Z" } : Jvm.MethodName)) ∈ ztbl := zmemP6 32 (by first | exact rfl | decide +kernel) (by first | exact rfl | decide +kernel)
theorem wd_1234 : (Jvm.Cond.instanceMethod ({ cls := "PrimeBlocksModel", name := "isTurned", desc := "(II)Z" } : Jvm.MethodName)) ∈ ztbl := zmemP6 34 (by first | exact rfl | decide +kernel) (by first | exact rfl | decide +kernel)
theorem wd_1235 : (Jvm.Cond.code ({ cls := "PrimeBlocksModel", name := "isTurned", desc := "(II)Z" } : Jvm.MethodName) prog_11_method_35_code (6 : Nat) (Option.some Jvm.ClassFile.FieldType.boolean)) ∈ ztbl := zmemP6 35 (by first | exact rfl | decide +kernel) (by first | exact rfl | decide +kernel)
theorem wd_1240 : (Jvm.Cond.methodLink "PrimeBlocksModel" (298 : Nat) ({ cls := "PrimeBlocksModel", name := "partBy", desc := "(II)I" } : Jvm.MethodName)) ∈ ztbl := zmemP6 40 (by first | exact rfl | decide +kernel) (by first | exact rfl | decide +kernel)
theorem wd_1241 : (Jvm.Cond.static ({ cls := "PrimeBlocksModel", name := "partBy", desc := "(II)I" } : Jvm.MethodName)) ∈ ztbl := zmemP6 41 (by first | exact rfl | decide +kernel) (by first | exact rfl | decide +kernel)
theorem wd_1242 : (Jvm.Cond.code ({ cls := "PrimeBlocksModel", name := "partBy", desc := "(II)I" } : Jvm.MethodName) prog_11_method_12_code (4 : Nat) (Option.some Jvm.ClassFile.FieldType.int)) ∈ ztbl := zmemP6 42 (by first | exact rfl | decide +kernel) (by first | exact rfl | decide +kernel)
theorem wd_1247 : (Jvm.Cond.constantLong "PrimeBlocksModel" (301 : Nat) (5 : Int64)) ∈ ztbl := zmemP6 47 (by first | exact rfl | decide +kernel) (by first | exact rfl | decide +kernel)
theorem wd_1268 : (Jvm.Cond.methodLink "PrimeBlocksModel" (303 : Nat) ({ cls := "PrimeBlocksModel", name := "isRegularOne", desc := "(I)Z" } : Jvm.MethodName)) ∈ ztbl := zmemP6 68 (by first | exact rfl | decide +kernel) (by first | exact rfl | decide +kernel)
theorem wd_1270 : (Jvm.Cond.instanceMethod ({ cls := "PrimeBlocksModel", name := "isRegularOne", desc := "(I)Z" } : Jvm.MethodName)) ∈ ztbl := zmemP6 70 (by first | exact rfl | decide +kernel) (by first | exact rfl | decide +kernel)
theorem wd_1271 : (Jvm.Cond.code ({ cls := "PrimeBlocksModel", name := "isRegularOne", desc := "(I)Z" } : Jvm.MethodName) prog_11_method_44_code (2 : Nat) (Option.some Jvm.ClassFile.FieldType.boolean)) ∈ ztbl := zmemP6 71 (by first | exact rfl | decide +kernel) (by first | exact rfl | decide +kernel)
theorem wd_1276 : (Jvm.Cond.methodLink "PrimeBlocksModel" (306 : Nat) ({ cls := "PrimeBlocksModel", name := "cartanOf", desc := "(II)I" } : Jvm.MethodName)) ∈ ztbl := zmemP6 76 (by first | exact rfl | decide +kernel) (by first | exact rfl | decide +kernel)
theorem wd_1278 : (Jvm.Cond.instanceMethod ({ cls := "PrimeBlocksModel", name := "cartanOf", desc := "(II)I" } : Jvm.MethodName)) ∈ ztbl := zmemP6 78 (by first | exact rfl | decide +kernel) (by first | exact rfl | decide +kernel)
theorem wd_1279 : (Jvm.Cond.code ({ cls := "PrimeBlocksModel", name := "cartanOf", desc := "(II)I" } : Jvm.MethodName) prog_11_method_46_code (5 : Nat) (Option.some Jvm.ClassFile.FieldType.int)) ∈ ztbl := zmemP6 79 (by first | exact rfl | decide +kernel) (by first | exact rfl | decide +kernel)
theorem wd_1292 : (Jvm.Cond.methodLink "PrimeBlocksModel" (309 : Nat) ({ cls := "PrimeBlocksModel", name := "membersOf", desc := "(I)I" } : Jvm.MethodName)) ∈ ztbl := zmemP6 92 (by first | exact rfl | decide +kernel) (by first | exact rfl | decide +kernel)
theorem wd_1294 : (Jvm.Cond.instanceMethod ({ cls := "PrimeBlocksModel", name := "membersOf", desc := "(I)I" } : Jvm.MethodName)) ∈ ztbl := zmemP6 94 (by first | exact rfl | decide +kernel) (by first | exact rfl | decide +kernel)
theorem wd_1295 : (Jvm.Cond.code ({ cls := "PrimeBlocksModel", name := "membersOf", desc := "(I)I" } : Jvm.MethodName) prog_11_method_50_code (4 : Nat) (Option.some Jvm.ClassFile.FieldType.int)) ∈ ztbl := zmemP6 95 (by first | exact rfl | decide +kernel) (by first | exact rfl | decide +kernel)
theorem wd_1296 : (Jvm.Cond.methodLink "PrimeBlocksModel" (312 : Nat) ({ cls := "PrimeBlocksModel", name := "defect", desc := "(I)I" } : Jvm.MethodName)) ∈ ztbl := zmemP6 96 (by first | exact rfl | decide +kernel) (by first | exact rfl | decide +kernel)
theorem wd_1298 : (Jvm.Cond.instanceMethod ({ cls := "PrimeBlocksModel", name := "defect", desc := "(I)I" } : Jvm.MethodName)) ∈ ztbl := zmemP6 98 (by first | exact rfl | decide +kernel) (by first | exact rfl | decide +kernel)
theorem wd_1299 : (Jvm.Cond.code ({ cls := "PrimeBlocksModel", name := "defect", desc := "(I)I" } : Jvm.MethodName) prog_11_method_52_code (5 : Nat) (Option.some Jvm.ClassFile.FieldType.int)) ∈ ztbl := zmemP6 99 (by first | exact rfl | decide +kernel) (by first | exact rfl | decide +kernel)
theorem wd_1300 : (Jvm.Cond.methodLink "PrimeBlocksModel" (315 : Nat) ({ cls := "PrimeBlocksModel", name := "determinant", desc := "(I)J" } : Jvm.MethodName)) ∈ ztbl := zmemP6 100 (by first | exact rfl | decide +kernel) (by first | exact rfl | decide +kernel)
theorem wd_1302 : (Jvm.Cond.instanceMethod ({ cls := "PrimeBlocksModel", name := "determinant", desc := "(I)J" } : Jvm.MethodName)) ∈ ztbl := zmemP6 102 (by first | exact rfl | decide +kernel) (by first | exact rfl | decide +kernel)
theorem wd_1303 : (Jvm.Cond.code ({ cls := "PrimeBlocksModel", name := "determinant", desc := "(I)J" } : Jvm.MethodName) prog_11_method_51_code (10 : Nat) (Option.some Jvm.ClassFile.FieldType.long)) ∈ ztbl := zmemP6 103 (by first | exact rfl | decide +kernel) (by first | exact rfl | decide +kernel)
theorem wd_1308 : (Jvm.Cond.methodLink "PrimeBlocksModel" (319 : Nat) ({ cls := "PrimeBlocksModel", name := "isSlot", desc := "(I)Z" } : Jvm.MethodName)) ∈ ztbl := zmemP6 108 (by first | exact rfl | decide +kernel) (by first | exact rfl | decide +kernel)
theorem wd_1309 : (Jvm.Cond.static ({ cls := "PrimeBlocksModel", name := "isSlot", desc := "(I)Z" } : Jvm.MethodName)) ∈ ztbl := zmemP6 109 (by first | exact rfl | decide +kernel) (by first | exact rfl | decide +kernel)
theorem wd_1310 : (Jvm.Cond.code ({ cls := "PrimeBlocksModel", name := "isSlot", desc := "(I)Z" } : Jvm.MethodName) prog_11_method_54_code (1 : Nat) (Option.some Jvm.ClassFile.FieldType.boolean)) ∈ ztbl := zmemP6 110 (by first | exact rfl | decide +kernel) (by first | exact rfl | decide +kernel)
theorem wd_1311 : (Jvm.Cond.constantLong "PrimeBlocksModel" (324 : Nat) (-9223372036854775808 : Int64)) ∈ ztbl := zmemP6 111 (by first | exact rfl | decide +kernel) (by first | exact rfl | decide +kernel)
theorem wd_1316 : (Jvm.Cond.constantLong "PrimeBlocksModel" (326 : Nat) (3 : Int64)) ∈ ztbl := zmemP6 116 (by first | exact rfl | decide +kernel) (by first | exact rfl | decide +kernel)
theorem wd_1317 : (Jvm.Cond.methodLink "PrimeBlocksModel" (328 : Nat) ({ cls := "PrimeBlocksModel", name := "ordinarySum", desc := "(II)J" } : Jvm.MethodName)) ∈ ztbl := zmemP6 117 (by first | exact rfl | decide +kernel) (by first | exact rfl | decide +kernel)
theorem wd_1319 : (Jvm.Cond.instanceMethod ({ cls := "PrimeBlocksModel", name := "ordinarySum", desc := "(II)J" } : Jvm.MethodName)) ∈ ztbl := zmemP6 119 (by first | exact rfl | decide +kernel) (by first | exact rfl | decide +kernel)
theorem wd_1320 : (Jvm.Cond.code ({ cls := "PrimeBlocksModel", name := "ordinarySum", desc := "(II)J" } : Jvm.MethodName) prog_11_method_56_code (6 : Nat) (Option.some Jvm.ClassFile.FieldType.long)) ∈ ztbl := zmemP6 120 (by first | exact rfl | decide +kernel) (by first | exact rfl | decide +kernel)
theorem wd_1321 : (Jvm.Cond.methodLink "PrimeBlocksModel" (332 : Nat) ({ cls := "PrimeBlocksModel", name := "modularSum", desc := "(II)J" } : Jvm.MethodName)) ∈ ztbl := zmemP6 121 (by first | exact rfl | decide +kernel) (by first | exact rfl | decide +kernel)
theorem wd_1323 : (Jvm.Cond.instanceMethod ({ cls := "PrimeBlocksModel", name := "modularSum", desc := "(II)J" } : Jvm.MethodName)) ∈ ztbl := zmemP6 123 (by first | exact rfl | decide +kernel) (by first | exact rfl | decide +kernel)
theorem wd_1324 : (Jvm.Cond.code ({ cls := "PrimeBlocksModel", name := "modularSum", desc := "(II)J" } : Jvm.MethodName) prog_11_method_57_code (6 : Nat) (Option.some Jvm.ClassFile.FieldType.long)) ∈ ztbl := zmemP6 124 (by first | exact rfl | decide +kernel) (by first | exact rfl | decide +kernel)
theorem wd_1325 : (Jvm.Cond.methodLink "PrimeBlocksModel" (335 : Nat) ({ cls := "PrimeBlocksModel", name := "divisor", desc := "(JJ)J" } : Jvm.MethodName)) ∈ ztbl := zmemP6 125 (by first | exact rfl | decide +kernel) (by first | exact rfl | decide +kernel)
theorem wd_1326 : (Jvm.Cond.static ({ cls := "PrimeBlocksModel", name := "divisor", desc := "(JJ)J" } : Jvm.MethodName)) ∈ ztbl := zmemP6 126 (by first | exact rfl | decide +kernel) (by first | exact rfl | decide +kernel)
theorem wd_1327 : (Jvm.Cond.code ({ cls := "PrimeBlocksModel", name := "divisor", desc := "(JJ)J" } : Jvm.MethodName) prog_11_method_58_code (10 : Nat) (Option.some Jvm.ClassFile.FieldType.long)) ∈ ztbl := zmemP6 127 (by first | exact rfl | decide +kernel) (by first | exact rfl | decide +kernel)
theorem wd_1332 : (Jvm.Cond.constantLong "PrimeBlocksModel" (339 : Nat) (-1 : Int64)) ∈ ztbl := zmemP6 132 (by first | exact rfl | decide +kernel) (by first | exact rfl | decide +kernel)
theorem wd_1337 : (Jvm.Cond.constantLong "PrimeBlocksModel" (341 : Nat) (4 : Int64)) ∈ ztbl := zmemP6 137 (by first | exact rfl | decide +kernel) (by first | exact rfl | decide +kernel)
theorem wd_1338 : (Jvm.Cond.methodLink "PrimeBlocksModel" (343 : Nat) ({ cls := "PrimeBlocksModel", name := "areWhole", desc := "(IZZ)Z" } : Jvm.MethodName)) ∈ ztbl := zmemP6 138 (by first | exact rfl | decide +kernel) (by first | exact rfl | decide +kernel)
theorem wd_1340 : (Jvm.Cond.instanceMethod ({ cls := "PrimeBlocksModel", name := "areWhole", desc := "(IZZ)Z" } : Jvm.MethodName)) ∈ ztbl := zmemP6 140 (by first | exact rfl | decide +kernel) (by first | exact rfl | decide +kernel)
theorem wd_1341 : (Jvm.Cond.code ({ cls := "PrimeBlocksModel", name := "areWhole", desc := "(IZZ)Z" } : Jvm.MethodName) prog_11_method_61_code (7 : Nat) (Option.some Jvm.ClassFile.FieldType.boolean)) ∈ ztbl := zmemP6 141 (by first | exact rfl | decide +kernel) (by first | exact rfl | decide +kernel)
theorem wd_1350 : (Jvm.Cond.methodLink "PrimeBlocksModel" (350 : Nat) ({ cls := "PrimeBlocksModel", name := "four", desc := "(I)V" } : Jvm.MethodName)) ∈ ztbl := zmemP6 150 (by first | exact rfl | decide +kernel) (by first | exact rfl | decide +kernel)
theorem wd_1352 : (Jvm.Cond.instanceMethod ({ cls := "PrimeBlocksModel", name := "four", desc := "(I)V" } : Jvm.MethodName)) ∈ ztbl := zmemP6 152 (by first | exact rfl | decide +kernel) (by first | exact rfl | decide +kernel)
theorem wd_1353 : (Jvm.Cond.code ({ cls := "PrimeBlocksModel", name := "four", desc := "(I)V" } : Jvm.MethodName) prog_11_method_64_code (3 : Nat) (Option.none : Option Jvm.ClassFile.FieldType)) ∈ ztbl := zmemP6 153 (by first | exact rfl | decide +kernel) (by first | exact rfl | decide +kernel)
theorem wd_1427 : (Jvm.Cond.constantLong "PrimeBlocksModel" (432 : Nat) (10 : Int64)) ∈ ztbl := zmemP6 227 (by first | exact rfl | decide +kernel) (by first | exact rfl | decide +kernel)
theorem ws_75 : (Jvm.Cond.selects "PrimeBlocksModel" ({ cls := "PrimeBlocksModel", name := "isPart", desc := "(I)Z" } : Jvm.MethodName) ({ cls := "PrimeBlocksModel", name := "isPart", desc := "(I)Z" } : Jvm.MethodName)) ∈ ztbl := zmem 75 (by decide +kernel) (by decide +kernel)
theorem ws_76 : (Jvm.Cond.selects "PrimeBlocksModel" ({ cls := "PrimeBlocksModel", name := "turned", desc := "(I)I" } : Jvm.MethodName) ({ cls := "PrimeBlocksModel", name := "turned", desc := "(I)I" } : Jvm.MethodName)) ∈ ztbl := zmem 76 (by decide +kernel) (by decide +kernel)
theorem ws_77 : (Jvm.Cond.selects "PrimeBlocksModel" ({ cls := "PrimeBlocksModel", name := "isTurned", desc := "(II)Z" } : Jvm.MethodName) ({ cls := "PrimeBlocksModel", name := "isTurned", desc := "(II)Z" } : Jvm.MethodName)) ∈ ztbl := zmem 77 (by decide +kernel) (by decide +kernel)
theorem ws_78 : (Jvm.Cond.selects "PrimeBlocksModel" ({ cls := "PrimeBlocksModel", name := "isRegularOne", desc := "(I)Z" } : Jvm.MethodName) ({ cls := "PrimeBlocksModel", name := "isRegularOne", desc := "(I)Z" } : Jvm.MethodName)) ∈ ztbl := zmem 78 (by decide +kernel) (by decide +kernel)
theorem ws_79 : (Jvm.Cond.selects "PrimeBlocksModel" ({ cls := "PrimeBlocksModel", name := "cartanOf", desc := "(II)I" } : Jvm.MethodName) ({ cls := "PrimeBlocksModel", name := "cartanOf", desc := "(II)I" } : Jvm.MethodName)) ∈ ztbl := zmem 79 (by decide +kernel) (by decide +kernel)
theorem ws_80 : (Jvm.Cond.selects "PrimeBlocksModel" ({ cls := "PrimeBlocksModel", name := "membersOf", desc := "(I)I" } : Jvm.MethodName) ({ cls := "PrimeBlocksModel", name := "membersOf", desc := "(I)I" } : Jvm.MethodName)) ∈ ztbl := zmem 80 (by decide +kernel) (by decide +kernel)
theorem ws_81 : (Jvm.Cond.selects "PrimeBlocksModel" ({ cls := "PrimeBlocksModel", name := "defect", desc := "(I)I" } : Jvm.MethodName) ({ cls := "PrimeBlocksModel", name := "defect", desc := "(I)I" } : Jvm.MethodName)) ∈ ztbl := zmem 81 (by decide +kernel) (by decide +kernel)
theorem ws_82 : (Jvm.Cond.selects "PrimeBlocksModel" ({ cls := "PrimeBlocksModel", name := "determinant", desc := "(I)J" } : Jvm.MethodName) ({ cls := "PrimeBlocksModel", name := "determinant", desc := "(I)J" } : Jvm.MethodName)) ∈ ztbl := zmem 82 (by decide +kernel) (by decide +kernel)
theorem ws_83 : (Jvm.Cond.selects "PrimeBlocksModel" ({ cls := "PrimeBlocksModel", name := "ordinarySum", desc := "(II)J" } : Jvm.MethodName) ({ cls := "PrimeBlocksModel", name := "ordinarySum", desc := "(II)J" } : Jvm.MethodName)) ∈ ztbl := zmem 83 (by decide +kernel) (by decide +kernel)
theorem ws_84 : (Jvm.Cond.selects "PrimeBlocksModel" ({ cls := "PrimeBlocksModel", name := "modularSum", desc := "(II)J" } : Jvm.MethodName) ({ cls := "PrimeBlocksModel", name := "modularSum", desc := "(II)J" } : Jvm.MethodName)) ∈ ztbl := zmem 84 (by decide +kernel) (by decide +kernel)
theorem ws_85 : (Jvm.Cond.selects "PrimeBlocksModel" ({ cls := "PrimeBlocksModel", name := "areWhole", desc := "(IZZ)Z" } : Jvm.MethodName) ({ cls := "PrimeBlocksModel", name := "areWhole", desc := "(IZZ)Z" } : Jvm.MethodName)) ∈ ztbl := zmem 85 (by decide +kernel) (by decide +kernel)
theorem ws_86 : (Jvm.Cond.selects "PrimeBlocksModel" ({ cls := "PrimeBlocksModel", name := "four", desc := "(I)V" } : Jvm.MethodName) ({ cls := "PrimeBlocksModel", name := "four", desc := "(I)V" } : Jvm.MethodName)) ∈ ztbl := zmem 86 (by decide +kernel) (by decide +kernel)
theorem zc_cl_5 : zj (5 : Int64) = 5 := by decide
theorem zc_b_m2 : zi (Int8.ofInt (-2)).toInt32 = 4294967294 := by decide
theorem zc_s_m1001 : zi (Int16.ofInt (-1001)).toInt32 = 4294966295 := by decide
theorem zc_cl_m9223372036854775808 : zj (-9223372036854775808 : Int64) = 9223372036854775808 := by decide
theorem zc_cl_3 : zj (3 : Int64) = 3 := by decide
theorem zc_cl_m1 : zj (-1 : Int64) = 18446744073709551615 := by decide
theorem zc_cl_4 : zj (4 : Int64) = 4 := by decide
theorem zc_b_24 : zi (Int8.ofInt (24)).toInt32 = 24 := by decide
theorem zc_s_255 : zi (Int16.ofInt (255)).toInt32 = 255 := by decide
theorem zc_i_m8 : zi (Int32.ofInt (-8)) = 4294967288 := by decide
theorem zc_cl_10 : zj (10 : Int64) = 10 := by decide
theorem zc_b_9 : zi (Int8.ofInt (9)).toInt32 = 9 := by decide
theorem zc_b_10 : zi (Int8.ofInt (10)).toInt32 = 10 := by decide
end
