/-! the reference, by program -/
abbrev X_X9_isIn : zM := (RX9, cX9_isIn, 6, (some .boolean), "isIn")
noncomputable def bX9_isIn_18 {d : Nat} (P : zP d) : zK d := (xzret P)
set_option maxRecDepth 100000 in
set_option maxHeartbeats 4000000 in
theorem sbX9_isIn_18 {d : Nat} [zGh] (P : zP d) : zSim X_X9_isIn 1 P 18 (bX9_isIn_18 P) := by
  unfold bX9_isIn_18
  exact sm_zreturn (pc := 18) dX9_isIn_18 rfl
noncomputable def bX9_isIn_17 {d : Nat} (P : zP d) (j18 : zK d) : zK d := (xpI 0 j18)
set_option maxRecDepth 100000 in
set_option maxHeartbeats 4000000 in
theorem sbX9_isIn_17 {d : Nat} [zGh] (P : zP d) (j18 : zK d) (hj18 : zSim X_X9_isIn 1 P 18 j18) : zSim X_X9_isIn 1 P 17 (bX9_isIn_17 P j18) := by
  unfold bX9_isIn_17
  refine sm_iconst (pc := 17) dX9_isIn_17 zc_i_0 ?_
  exact hj18
noncomputable def b_X9_isIn {d : Nat} (P : zP d) : zK d := (xlld 0 (xlld 2 (xlcmp (xjoin (bX9_isIn_18 P) (fun j18 => (xjoin (bX9_isIn_17 P j18) (fun j17 => (xif0 t0ge (xlld 0 (xlld 4 (xlcmp (xif0 t0le (xpI 1 j18) j17)))) j17))))))))
set_option maxRecDepth 100000 in
set_option maxHeartbeats 4000000 in
theorem s_X9_isIn {d : Nat} [zGh] (P : zP d) : zSim X_X9_isIn 1 P 0 (b_X9_isIn P) := by
  unfold b_X9_isIn
  refine sm_lload_n (pc := 0) (n := 0) dX9_isIn_0 rfl ?_
  refine sm_lload_n (pc := 1) (n := 2) dX9_isIn_1 rfl ?_
  refine sm_lcmp (pc := 2) dX9_isIn_2 ?_
  refine sm_join (pc := 3) (pc' := 18) (sbX9_isIn_18 P) (fun j18 hj18 => ?_)
  refine sm_join (pc := 3) (pc' := 17) (sbX9_isIn_17 P j18 hj18) (fun j17 hj17 => ?_)
  refine sm_if_lt (pc := 3) (tgt := 17) dX9_isIn_3 (by decide) ?_ ?_
  · skip
    exact hj17
  · skip
    refine sm_lload_n (pc := 6) (n := 0) dX9_isIn_6 rfl ?_
    refine sm_lload (pc := 7) (n := 4) dX9_isIn_7 ?_
    refine sm_lcmp (pc := 9) dX9_isIn_9 ?_
    refine sm_if_gt (pc := 10) (tgt := 17) dX9_isIn_10 (by decide) ?_ ?_
    · skip
      exact hj17
    · skip
      refine sm_iconst (pc := 13) dX9_isIn_13 zc_i_1 ?_
      refine sm_goto (pc := 14) (tgt := 18) dX9_isIn_14 (by decide) ?_
      exact hj18
noncomputable def f_X9_isIn {d : Nat} : List zV → zH d → zP d → Bool := zfn 6 b_X9_isIn
theorem m_X9_isIn {d : Nat} : zMet (d := d) X_X9_isIn yX9_isIn 1 f_X9_isIn := zmet_mk (X := X_X9_isIn) (by decide) rfl rfl s_X9_isIn

abbrev X_X9_one : zM := (RX9, cX9_one, 1, (some .int), "one")
noncomputable def bX9_one_9 {d : Nat} (P : zP d) : zK d := (xiret P)
set_option maxRecDepth 100000 in
set_option maxHeartbeats 4000000 in
theorem sbX9_one_9 {d : Nat} [zGh] (P : zP d) : zSim X_X9_one 1 P 9 (bX9_one_9 P) := by
  unfold bX9_one_9
  exact sm_ireturn (pc := 9) dX9_one_9 rfl
noncomputable def b_X9_one {d : Nat} (P : zP d) : zK d := (xild 0 (xjoin (bX9_one_9 P) (fun j9 => (xif0 t0eq (xpI 0 j9) (xpI 1 j9)))))
set_option maxRecDepth 100000 in
set_option maxHeartbeats 4000000 in
theorem s_X9_one {d : Nat} [zGh] (P : zP d) : zSim X_X9_one 1 P 0 (b_X9_one P) := by
  unfold b_X9_one
  refine sm_iload_n (pc := 0) (n := 0) dX9_one_0 rfl ?_
  refine sm_join (pc := 1) (pc' := 9) (sbX9_one_9 P) (fun j9 hj9 => ?_)
  refine sm_if_eq (pc := 1) (tgt := 8) dX9_one_1 (by decide) ?_ ?_
  · skip
    refine sm_iconst (pc := 8) dX9_one_8 zc_i_0 ?_
    exact hj9
  · skip
    refine sm_iconst (pc := 4) dX9_one_4 zc_i_1 ?_
    refine sm_goto (pc := 5) (tgt := 9) dX9_one_5 (by decide) ?_
    exact hj9
noncomputable def f_X9_one {d : Nat} : List zV → zH d → zP d → Bool := zfn 1 b_X9_one
theorem m_X9_one {d : Nat} : zMet (d := d) X_X9_one yX9_one 1 f_X9_one := zmet_mk (X := X_X9_one) (by decide) rfl rfl s_X9_one

abbrev X_X9_bits : zM := (RX9, cX9_bits, 3, (some .int), "bits")
noncomputable def lX9_bits_4 {d : Nat} (P : zP d) (r4 : zK d) : zK d := (xild 2 (xif0 t0eq (xild 1 (xiret P)) (xinc 1 1 (xild 2 (xild 2 (xpI 1 (xbin zsub (xbin zand (xist 2 r4)))))))))
set_option maxRecDepth 100000 in
set_option maxHeartbeats 4000000 in
theorem slX9_bits_4 {d : Nat} [zGh] (P : zP d) (r4 : zK d) (hr4 : zSim X_X9_bits 1 P 4 r4) : zSim X_X9_bits 1 P 4 (lX9_bits_4 P r4) := by
  unfold lX9_bits_4
  refine sm_iload_n (pc := 4) (n := 2) dX9_bits_4 rfl ?_
  refine sm_if_eq (pc := 5) (tgt := 20) dX9_bits_5 (by decide) ?_ ?_
  · skip
    refine sm_iload_n (pc := 20) (n := 1) dX9_bits_20 rfl ?_
    exact sm_ireturn (pc := 21) dX9_bits_21 rfl
  · skip
    refine sm_iinc (pc := 8) (n := 1) dX9_bits_8 zc_i_1 ?_
    refine sm_iload_n (pc := 11) (n := 2) dX9_bits_11 rfl ?_
    refine sm_iload_n (pc := 12) (n := 2) dX9_bits_12 rfl ?_
    refine sm_iconst (pc := 13) dX9_bits_13 zc_i_1 ?_
    refine sm_isub (pc := 14) dX9_bits_14 ?_
    refine sm_iand (pc := 15) dX9_bits_15 ?_
    refine sm_istore_n (pc := 16) (n := 2) dX9_bits_16 rfl ?_
    refine sm_goto (pc := 17) (tgt := 4) dX9_bits_17 (by decide) ?_
    exact hr4
noncomputable def b_X9_bits {d : Nat} (P : zP d) : zK d := (xpI 0 (xist 1 (xild 0 (xist 2 (xloop (fun r4 => (lX9_bits_4 P r4)) 100000)))))
set_option maxRecDepth 100000 in
set_option maxHeartbeats 4000000 in
theorem s_X9_bits {d : Nat} [zGh] (P : zP d) : zSim X_X9_bits 1 P 0 (b_X9_bits P) := by
  unfold b_X9_bits
  refine sm_iconst (pc := 0) dX9_bits_0 zc_i_0 ?_
  refine sm_istore_n (pc := 1) (n := 1) dX9_bits_1 rfl ?_
  refine sm_iload_n (pc := 2) (n := 0) dX9_bits_2 rfl ?_
  refine sm_istore_n (pc := 3) (n := 2) dX9_bits_3 rfl ?_
  exact sm_loop (fun r4 hr4 => slX9_bits_4 P r4 hr4) _
noncomputable def f_X9_bits {d : Nat} : List zV → zH d → zP d → Bool := zfn 3 b_X9_bits
theorem m_X9_bits {d : Nat} : zMet (d := d) X_X9_bits yX9_bits 1 f_X9_bits := zmet_mk (X := X_X9_bits) (by decide) rfl rfl s_X9_bits

abbrev X_X9_partOf : zM := (RX9, cX9_partOf, 3, (some .int), "partOf")
noncomputable def bX9_partOf_21 {d : Nat} (P : zP d) : zK d := (xiret P)
set_option maxRecDepth 100000 in
set_option maxHeartbeats 4000000 in
theorem sbX9_partOf_21 {d : Nat} [zGh] (P : zP d) : zSim X_X9_partOf 1 P 21 (bX9_partOf_21 P) := by
  unfold bX9_partOf_21
  exact sm_ireturn (pc := 21) dX9_partOf_21 rfl
noncomputable def b_X9_partOf {d : Nat} (P : zP d) : zK d := (xild 2 (xpI 6 (xjoin (bX9_partOf_21 P) (fun j21 => (xcmp tge (xpI 0 j21) (xald 0 (xgfR 25 3 (xpI 6 (xild 1 (xbin zmul (xild 2 (xbin zadd (xald1 0 j21)))))))))))))
set_option maxRecDepth 100000 in
set_option maxHeartbeats 4000000 in
theorem s_X9_partOf {d : Nat} [zGh] (P : zP d) : zSim X_X9_partOf 1 P 0 (b_X9_partOf P) := by
  unfold b_X9_partOf
  refine sm_iload_n (pc := 0) (n := 2) dX9_partOf_0 rfl ?_
  refine sm_bipush (pc := 1) dX9_partOf_1 zc_b_6 ?_
  refine sm_join (pc := 3) (pc' := 21) (sbX9_partOf_21 P) (fun j21 hj21 => ?_)
  refine sm_icmp_ge (pc := 3) (tgt := 20) dX9_partOf_3 (by decide) ?_ ?_
  · skip
    refine sm_iconst (pc := 20) dX9_partOf_20 zc_i_0 ?_
    exact hj21
  · skip
    refine sm_aload_n (pc := 6) (n := 0) dX9_partOf_6 rfl ?_
    refine gf_X9_7 (pc := 7) rfl dX9_partOf_7 ?_
    refine sm_bipush (pc := 10) dX9_partOf_10 zc_b_6 ?_
    refine sm_iload_n (pc := 12) (n := 1) dX9_partOf_12 rfl ?_
    refine sm_imul (pc := 13) dX9_partOf_13 ?_
    refine sm_iload_n (pc := 14) (n := 2) dX9_partOf_14 rfl ?_
    refine sm_iadd (pc := 15) dX9_partOf_15 ?_
    refine sm_iaload (pc := 16) dX9_partOf_16 ?_
    refine sm_goto (pc := 17) (tgt := 21) dX9_partOf_17 (by decide) ?_
    exact hj21
noncomputable def f_X9_partOf {d : Nat} : List zV → zH d → zP d → Bool := zfn 3 b_X9_partOf
theorem m_X9_partOf {d : Nat} : zMet (d := d) X_X9_partOf yX9_partOf 1 f_X9_partOf := zmet_mk (X := X_X9_partOf) (by decide) rfl rfl s_X9_partOf

abbrev X_X9_gcd : zM := (RX9, cX9_gcd, 5, (some .int), "gcd")
noncomputable def lX9_gcd_4 {d : Nat} (P : zP d) (r4 : zK d) : zK d := (xild 3 (xif0 t0eq (xild 2 (xiret P)) (xild 2 (xild 3 (xbinN zrem (xist 4 (xild 3 (xist 2 (xild 4 (xist 3 r4))))))))))
set_option maxRecDepth 100000 in
set_option maxHeartbeats 4000000 in
theorem slX9_gcd_4 {d : Nat} [zGh] (P : zP d) (r4 : zK d) (hr4 : zSim X_X9_gcd 1 P 4 r4) : zSim X_X9_gcd 1 P 4 (lX9_gcd_4 P r4) := by
  unfold lX9_gcd_4
  refine sm_iload_n (pc := 4) (n := 3) dX9_gcd_4 rfl ?_
  refine sm_if_eq (pc := 5) (tgt := 21) dX9_gcd_5 (by decide) ?_ ?_
  · skip
    refine sm_iload_n (pc := 21) (n := 2) dX9_gcd_21 rfl ?_
    exact sm_ireturn (pc := 22) dX9_gcd_22 rfl
  · skip
    refine sm_iload_n (pc := 8) (n := 2) dX9_gcd_8 rfl ?_
    refine sm_iload_n (pc := 9) (n := 3) dX9_gcd_9 rfl ?_
    refine sm_irem (pc := 10) dX9_gcd_10 ?_
    refine sm_istore (pc := 11) (n := 4) dX9_gcd_11 ?_
    refine sm_iload_n (pc := 13) (n := 3) dX9_gcd_13 rfl ?_
    refine sm_istore_n (pc := 14) (n := 2) dX9_gcd_14 rfl ?_
    refine sm_iload (pc := 15) (n := 4) dX9_gcd_15 ?_
    refine sm_istore_n (pc := 17) (n := 3) dX9_gcd_17 rfl ?_
    refine sm_goto (pc := 18) (tgt := 4) dX9_gcd_18 (by decide) ?_
    exact hr4
noncomputable def b_X9_gcd {d : Nat} (P : zP d) : zK d := (xild 0 (xist 2 (xild 1 (xist 3 (xloop (fun r4 => (lX9_gcd_4 P r4)) 100000)))))
set_option maxRecDepth 100000 in
set_option maxHeartbeats 4000000 in
theorem s_X9_gcd {d : Nat} [zGh] (P : zP d) : zSim X_X9_gcd 1 P 0 (b_X9_gcd P) := by
  unfold b_X9_gcd
  refine sm_iload_n (pc := 0) (n := 0) dX9_gcd_0 rfl ?_
  refine sm_istore_n (pc := 1) (n := 2) dX9_gcd_1 rfl ?_
  refine sm_iload_n (pc := 2) (n := 1) dX9_gcd_2 rfl ?_
  refine sm_istore_n (pc := 3) (n := 3) dX9_gcd_3 rfl ?_
  exact sm_loop (fun r4 hr4 => slX9_gcd_4 P r4 hr4) _
noncomputable def f_X9_gcd {d : Nat} : List zV → zH d → zP d → Bool := zfn 5 b_X9_gcd
theorem m_X9_gcd {d : Nat} : zMet (d := d) X_X9_gcd yX9_gcd 1 f_X9_gcd := zmet_mk (X := X_X9_gcd) (by decide) rfl rfl s_X9_gcd

abbrev X_X9_grows : zM := (RX9, cX9_grows, 5, none, "grows")
noncomputable def lX9_grows_80 {d : Nat} (self : List zV → zH d → zP d → Bool) (P : zP d) (r80 : zK d) : zK d := (xild 4 (xif0 t0le (xvret P) (xald 0 (xgfR 25 13 (xild 1 (xild 4 (xast1 0 (fun v => v) (xald 0 (xild 1 (xpI 1 (xbin zadd (xild 2 (xild 4 (xbin zsub (xild 4 (xcV 25 4 0 0 self (xinc 4 4294967295 r80)))))))))))))))))
set_option maxRecDepth 100000 in
set_option maxHeartbeats 4000000 in
theorem slX9_grows_80 {d : Nat} [zGh] (n : Nat) (self : List zV → zH d → zP d → Bool) (hself : zMet X_X9_grows yX9_grows (1 + n) self) (P : zP d) (r80 : zK d) (hr80 : zSim X_X9_grows (1 + (n + 1)) P 80 r80) : zSim X_X9_grows (1 + (n + 1)) P 80 (lX9_grows_80 self P r80) := by
  unfold lX9_grows_80
  refine sm_iload (pc := 80) (n := 4) dX9_grows_80 ?_
  refine sm_if_le (pc := 82) (tgt := 112) dX9_grows_82 (by decide) ?_ ?_
  · skip
    exact sm_vreturn (pc := 112) dX9_grows_112 rfl
  · skip
    refine sm_aload_n (pc := 85) (n := 0) dX9_grows_85 rfl ?_
    refine gf_X9_35 (pc := 86) rfl dX9_grows_86 ?_
    refine sm_iload_n (pc := 89) (n := 1) dX9_grows_89 rfl ?_
    refine sm_iload (pc := 90) (n := 4) dX9_grows_90 ?_
    refine sm_iastore (pc := 92) dX9_grows_92 ?_
    refine sm_aload_n (pc := 93) (n := 0) dX9_grows_93 rfl ?_
    refine sm_iload_n (pc := 94) (n := 1) dX9_grows_94 rfl ?_
    refine sm_iconst (pc := 95) dX9_grows_95 zc_i_1 ?_
    refine sm_iadd (pc := 96) dX9_grows_96 ?_
    refine sm_iload_n (pc := 97) (n := 2) dX9_grows_97 rfl ?_
    refine sm_iload (pc := 98) (n := 4) dX9_grows_98 ?_
    refine sm_isub (pc := 100) dX9_grows_100 ?_
    refine sm_iload (pc := 101) (n := 4) dX9_grows_101 ?_
    refine sm_cV (pc := 103) (ci := 9) (n := 4) (mc := 0) (ms := 0) rfl hself (cr_X9_162 (X := X_X9_grows) (fr := 1 + (n + 1)) (frc := 1 + n) (pc := 103) (mc := 0) (ms := 0) rfl (by omega) dX9_grows_103) ?_
    refine sm_iinc (pc := 106) (n := 4) dX9_grows_106 zc_i_m1 ?_
    refine sm_goto (pc := 109) (tgt := 80) dX9_grows_109 (by decide) ?_
    exact hr80
noncomputable def bX9_grows_45 {d : Nat} (self : List zV → zH d → zP d → Bool) (P : zP d) (r7 : zK d) : zK d := (xast1 0 (fun v => v) (xinc 4 1 r7))
set_option maxRecDepth 100000 in
set_option maxHeartbeats 4000000 in
theorem sbX9_grows_45 {d : Nat} [zGh] (n : Nat) (self : List zV → zH d → zP d → Bool) (hself : zMet X_X9_grows yX9_grows (1 + n) self) (P : zP d) (r7 : zK d) (hr7 : zSim X_X9_grows (1 + (n + 1)) P 7 r7) : zSim X_X9_grows (1 + (n + 1)) P 45 (bX9_grows_45 self P r7) := by
  unfold bX9_grows_45
  refine sm_iastore (pc := 45) dX9_grows_45 ?_
  refine sm_iinc (pc := 46) (n := 4) dX9_grows_46 zc_i_1 ?_
  refine sm_goto (pc := 49) (tgt := 7) dX9_grows_49 (by decide) ?_
  exact hr7
noncomputable def lX9_grows_7 {d : Nat} (self : List zV → zH d → zP d → Bool) (P : zP d) (r7 : zK d) : zK d := (xild 4 (xpI 6 (xcmp tge (xald 0 (xgfR 25 4 (xald 0 (xgfI 25 2 (xild 1 (xast1 0 (fun v => v) (xald 0 (xdup (xgfI 25 2 (xpI 1 (xbin zadd (xpfI 25 2 (xvret P))))))))))))) (xald 0 (xgfR 25 3 (xpI 6 (xald 0 (xgfI 25 2 (xbin zmul (xild 4 (xbin zadd (xild 4 (xild 1 (xjoin (bX9_grows_45 self P r7) (fun j45 => (xcmp tge (xpI 0 j45) (xald 0 (xgfR 25 13 (xild 4 (xald1 0 j45))))))))))))))))))))
set_option maxRecDepth 100000 in
set_option maxHeartbeats 4000000 in
theorem slX9_grows_7 {d : Nat} [zGh] (n : Nat) (self : List zV → zH d → zP d → Bool) (hself : zMet X_X9_grows yX9_grows (1 + n) self) (P : zP d) (r7 : zK d) (hr7 : zSim X_X9_grows (1 + (n + 1)) P 7 r7) : zSim X_X9_grows (1 + (n + 1)) P 7 (lX9_grows_7 self P r7) := by
  unfold lX9_grows_7
  refine sm_iload (pc := 7) (n := 4) dX9_grows_7 ?_
  refine sm_bipush (pc := 9) dX9_grows_9 zc_b_6 ?_
  refine sm_icmp_ge (pc := 11) (tgt := 52) dX9_grows_11 (by decide) ?_ ?_
  · skip
    refine sm_aload_n (pc := 52) (n := 0) dX9_grows_52 rfl ?_
    refine gf_X9_13 (pc := 53) rfl dX9_grows_53 ?_
    refine sm_aload_n (pc := 56) (n := 0) dX9_grows_56 rfl ?_
    refine gf_X9_153 (pc := 57) rfl dX9_grows_57 ?_
    refine sm_iload_n (pc := 60) (n := 1) dX9_grows_60 rfl ?_
    refine sm_iastore (pc := 61) dX9_grows_61 ?_
    refine sm_aload_n (pc := 62) (n := 0) dX9_grows_62 rfl ?_
    refine sm_dup (pc := 63) dX9_grows_63 ?_
    refine gf_X9_153 (pc := 64) rfl dX9_grows_64 ?_
    refine sm_iconst (pc := 67) dX9_grows_67 zc_i_1 ?_
    refine sm_iadd (pc := 68) dX9_grows_68 ?_
    refine pf_X9_153 (pc := 69) rfl dX9_grows_69 ?_
    exact sm_vreturn (pc := 72) dX9_grows_72 rfl
  · skip
    refine sm_aload_n (pc := 14) (n := 0) dX9_grows_14 rfl ?_
    refine gf_X9_7 (pc := 15) rfl dX9_grows_15 ?_
    refine sm_bipush (pc := 18) dX9_grows_18 zc_b_6 ?_
    refine sm_aload_n (pc := 20) (n := 0) dX9_grows_20 rfl ?_
    refine gf_X9_153 (pc := 21) rfl dX9_grows_21 ?_
    refine sm_imul (pc := 24) dX9_grows_24 ?_
    refine sm_iload (pc := 25) (n := 4) dX9_grows_25 ?_
    refine sm_iadd (pc := 27) dX9_grows_27 ?_
    refine sm_iload (pc := 28) (n := 4) dX9_grows_28 ?_
    refine sm_iload_n (pc := 30) (n := 1) dX9_grows_30 rfl ?_
    refine sm_join (pc := 31) (pc' := 45) (sbX9_grows_45 n self hself P r7 hr7) (fun j45 hj45 => ?_)
    refine sm_icmp_ge (pc := 31) (tgt := 44) dX9_grows_31 (by decide) ?_ ?_
    · skip
      refine sm_iconst (pc := 44) dX9_grows_44 zc_i_0 ?_
      exact hj45
    · skip
      refine sm_aload_n (pc := 34) (n := 0) dX9_grows_34 rfl ?_
      refine gf_X9_35 (pc := 35) rfl dX9_grows_35 ?_
      refine sm_iload (pc := 38) (n := 4) dX9_grows_38 ?_
      refine sm_iaload (pc := 40) dX9_grows_40 ?_
      refine sm_goto (pc := 41) (tgt := 45) dX9_grows_41 (by decide) ?_
      exact hj45
noncomputable def b_X9_grows {d : Nat} (self : List zV → zH d → zP d → Bool) (P : zP d) : zK d := (xild 2 (xif0 t0eq (xpI 0 (xist 4 (xloop (fun r7 => (lX9_grows_7 self P r7)) 100000))) (xild 2 (xild 3 (xmm zmin (xist 4 (xloop (fun r80 => (lX9_grows_80 self P r80)) 100000)))))))
set_option maxRecDepth 100000 in
set_option maxHeartbeats 4000000 in
theorem s_X9_grows {d : Nat} [zGh] (n : Nat) (self : List zV → zH d → zP d → Bool) (hself : zMet X_X9_grows yX9_grows (1 + n) self) (P : zP d) : zSim X_X9_grows (1 + (n + 1)) P 0 (b_X9_grows self P) := by
  unfold b_X9_grows
  refine sm_iload_n (pc := 0) (n := 2) dX9_grows_0 rfl ?_
  refine sm_if_ne (pc := 1) (tgt := 73) dX9_grows_1 (by decide) ?_ ?_
  · skip
    refine sm_iload_n (pc := 73) (n := 2) dX9_grows_73 rfl ?_
    refine sm_iload_n (pc := 74) (n := 3) dX9_grows_74 rfl ?_
    refine sm_mmin (pc := 75) wd_917 wd_76 wd_6 wd_77 (by omega) dX9_grows_75 ?_
    refine sm_istore (pc := 78) (n := 4) dX9_grows_78 ?_
    exact sm_loop (fun r80 hr80 => slX9_grows_80 n self hself P r80 hr80) _
  · skip
    refine sm_iconst (pc := 4) dX9_grows_4 zc_i_0 ?_
    refine sm_istore (pc := 5) (n := 4) dX9_grows_5 ?_
    exact sm_loop (fun r7 hr7 => slX9_grows_7 n self hself P r7 hr7) _
noncomputable def f_X9_grows {d : Nat} : List zV → zH d → zP d → Bool := zrec 5 b_X9_grows 8
theorem m_X9_grows {d : Nat} : zMet (d := d) X_X9_grows yX9_grows 9 f_X9_grows := zmet_rec (X := X_X9_grows) (fr := 1) (by decide) rfl rfl (fun n f hf _ P => s_X9_grows n f hf P) 8

abbrev X_X9_classes : zM := (RX9, cX9_classes, 7, none, "classes")
noncomputable def bX9_classes_270 {d : Nat} (P : zP d) (r38 : zK d) : zK d := (xast1 0 (fun v => v) (xald 0 (xdup (xgfI 25 11 (xald 0 (xgfR 25 7 (xild 1 (xald1 1 (xcS 1 0 0 f_X9_one (xbin zadd (xpfI 25 11 (xinc 1 1 r38))))))))))))
set_option maxRecDepth 100000 in
set_option maxHeartbeats 4000000 in
theorem sbX9_classes_270 {d : Nat} [zGh] (P : zP d) (r38 : zK d) (hr38 : zSim X_X9_classes 2 P 38 r38) : zSim X_X9_classes 2 P 270 (bX9_classes_270 P r38) := by
  unfold bX9_classes_270
  refine sm_iastore (pc := 270) dX9_classes_270 ?_
  refine sm_aload_n (pc := 271) (n := 0) dX9_classes_271 rfl ?_
  refine sm_dup (pc := 272) dX9_classes_272 ?_
  refine gf_X9_172 (pc := 273) rfl dX9_classes_273 ?_
  refine sm_aload_n (pc := 276) (n := 0) dX9_classes_276 rfl ?_
  refine gf_X9_22 (pc := 277) rfl dX9_classes_277 ?_
  refine sm_iload_n (pc := 280) (n := 1) dX9_classes_280 rfl ?_
  refine sm_baload (pc := 281) dX9_classes_281 ?_
  refine sm_cS (pc := 282) (n := 1) (mc := 0) (ms := 0) m_X9_one (cr_X9_187 (X := X_X9_classes) (fr := 2) (frc := 1) (pc := 282) (mc := 0) (ms := 0) rfl (by decide) dX9_classes_282) ?_
  refine sm_iadd (pc := 285) dX9_classes_285 ?_
  refine pf_X9_172 (pc := 286) rfl dX9_classes_286 ?_
  refine sm_iinc (pc := 289) (n := 1) dX9_classes_289 zc_i_1 ?_
  refine sm_goto (pc := 292) (tgt := 38) dX9_classes_292 (by decide) ?_
  exact hr38
noncomputable def bX9_classes_235 {d : Nat} (P : zP d) (r38 : zK d) : zK d := (xast1 1 (fun v => zand v 1) (xald 0 (xgfR 25 5 (xild 1 (xald 0 (xgfI 25 12 (xild 2 (xbinN zdiv (xast1 0 (fun v => v) (xald 0 (xgfR 25 10 (xild 1 (xald 0 (xgfR 25 7 (xild 1 (xald1 1 (xjoin (bX9_classes_270 P r38) (fun j270 => (xif0 t0eq (xpI 4294967295 j270) (xald 0 (xgfI 25 11 j270)))))))))))))))))))))
set_option maxRecDepth 100000 in
set_option maxHeartbeats 4000000 in
theorem sbX9_classes_235 {d : Nat} [zGh] (P : zP d) (r38 : zK d) (hr38 : zSim X_X9_classes 2 P 38 r38) : zSim X_X9_classes 2 P 235 (bX9_classes_235 P r38) := by
  unfold bX9_classes_235
  refine sm_bastore (pc := 235) dX9_classes_235 ?_
  refine sm_aload_n (pc := 236) (n := 0) dX9_classes_236 rfl ?_
  refine gf_X9_16 (pc := 237) rfl dX9_classes_237 ?_
  refine sm_iload_n (pc := 240) (n := 1) dX9_classes_240 rfl ?_
  refine sm_aload_n (pc := 241) (n := 0) dX9_classes_241 rfl ?_
  refine gf_X9_166 (pc := 242) rfl dX9_classes_242 ?_
  refine sm_iload_n (pc := 245) (n := 2) dX9_classes_245 rfl ?_
  refine sm_idiv (pc := 246) dX9_classes_246 ?_
  refine sm_iastore (pc := 247) dX9_classes_247 ?_
  refine sm_aload_n (pc := 248) (n := 0) dX9_classes_248 rfl ?_
  refine gf_X9_32 (pc := 249) rfl dX9_classes_249 ?_
  refine sm_iload_n (pc := 252) (n := 1) dX9_classes_252 rfl ?_
  refine sm_aload_n (pc := 253) (n := 0) dX9_classes_253 rfl ?_
  refine gf_X9_22 (pc := 254) rfl dX9_classes_254 ?_
  refine sm_iload_n (pc := 257) (n := 1) dX9_classes_257 rfl ?_
  refine sm_baload (pc := 258) dX9_classes_258 ?_
  refine sm_join (pc := 259) (pc' := 270) (sbX9_classes_270 P r38 hr38) (fun j270 hj270 => ?_)
  refine sm_if_eq (pc := 259) (tgt := 269) dX9_classes_259 (by decide) ?_ ?_
  · skip
    refine sm_iconst (pc := 269) dX9_classes_269 zc_i_m1 ?_
    exact hj270
  · skip
    refine sm_aload_n (pc := 262) (n := 0) dX9_classes_262 rfl ?_
    refine gf_X9_172 (pc := 263) rfl dX9_classes_263 ?_
    refine sm_goto (pc := 266) (tgt := 270) dX9_classes_266 (by decide) ?_
    exact hj270
noncomputable def bX9_classes_210 {d : Nat} (P : zP d) (r84 : zK d) : zK d := (xinc 5 1 r84)
set_option maxRecDepth 100000 in
set_option maxHeartbeats 4000000 in
theorem sbX9_classes_210 {d : Nat} [zGh] (P : zP d) (r84 : zK d) (hr84 : zSim X_X9_classes 2 P 84 r84) : zSim X_X9_classes 2 P 210 (bX9_classes_210 P r84) := by
  unfold bX9_classes_210
  refine sm_iinc (pc := 210) (n := 5) dX9_classes_210 zc_i_1 ?_
  refine sm_goto (pc := 213) (tgt := 84) dX9_classes_213 (by decide) ?_
  exact hr84
noncomputable def bX9_classes_190 {d : Nat} (P : zP d) (r84 : zK d) : zK d := (xild 6 (xpI 2 (xbinN zrem (xjoin (bX9_classes_210 P r84) (fun j210 => (xif0 t0eq (xald 0 (xgfR 25 9 (xild 1 (xald 0 (xgfR 25 9 (xild 1 (xald1 0 (xun zneg (xast1 0 (fun v => v) j210))))))))) j210))))))
set_option maxRecDepth 100000 in
set_option maxHeartbeats 4000000 in
theorem sbX9_classes_190 {d : Nat} [zGh] (P : zP d) (r84 : zK d) (hr84 : zSim X_X9_classes 2 P 84 r84) : zSim X_X9_classes 2 P 190 (bX9_classes_190 P r84) := by
  unfold bX9_classes_190
  refine sm_iload (pc := 190) (n := 6) dX9_classes_190 ?_
  refine sm_iconst (pc := 192) dX9_classes_192 zc_i_2 ?_
  refine sm_irem (pc := 193) dX9_classes_193 ?_
  refine sm_join (pc := 194) (pc' := 210) (sbX9_classes_210 P r84 hr84) (fun j210 hj210 => ?_)
  refine sm_if_ne (pc := 194) (tgt := 210) dX9_classes_194 (by decide) ?_ ?_
  · skip
    exact hj210
  · skip
    refine sm_aload_n (pc := 197) (n := 0) dX9_classes_197 rfl ?_
    refine gf_X9_29 (pc := 198) rfl dX9_classes_198 ?_
    refine sm_iload_n (pc := 201) (n := 1) dX9_classes_201 rfl ?_
    refine sm_aload_n (pc := 202) (n := 0) dX9_classes_202 rfl ?_
    refine gf_X9_29 (pc := 203) rfl dX9_classes_203 ?_
    refine sm_iload_n (pc := 206) (n := 1) dX9_classes_206 rfl ?_
    refine sm_iaload (pc := 207) dX9_classes_207 ?_
    refine sm_ineg (pc := 208) dX9_classes_208 ?_
    refine sm_iastore (pc := 209) dX9_classes_209 ?_
    exact hj210
noncomputable def cX9_classes_168 {d : Nat} (P : zP d) (r84 : zK d) : zK d := (xbinN zdiv (xild 6 (xbin zmul (xast1 0 (fun v => v) (xild 6 (xald 0 (xgfI 25 1 (xbinN zrem (xjoin (bX9_classes_190 P r84) (fun j190 => (xif0 t0eq (xald 0 (xgfR 25 8 (xild 1 (xpI 0 (xast1 1 (fun v => zand v 1) j190))))) j190)))))))))))
set_option maxRecDepth 100000 in
set_option maxHeartbeats 4000000 in
theorem scX9_classes_168 {d : Nat} [zGh] (P : zP d) (r84 : zK d) (hr84 : zSim X_X9_classes 2 P 84 r84) : zSim X_X9_classes 2 P 168 (cX9_classes_168 P r84) := by
  unfold cX9_classes_168
  refine sm_idiv (pc := 168) dX9_classes_168 ?_
  refine sm_iload (pc := 169) (n := 6) dX9_classes_169 ?_
  refine sm_imul (pc := 171) dX9_classes_171 ?_
  refine sm_iastore (pc := 172) dX9_classes_172 ?_
  refine sm_iload (pc := 173) (n := 6) dX9_classes_173 ?_
  refine sm_aload_n (pc := 175) (n := 0) dX9_classes_175 rfl ?_
  refine gf_X9_184 (pc := 176) rfl dX9_classes_176 ?_
  refine sm_irem (pc := 179) dX9_classes_179 ?_
  refine sm_join (pc := 180) (pc' := 190) (sbX9_classes_190 P r84 hr84) (fun j190 hj190 => ?_)
  refine sm_if_ne (pc := 180) (tgt := 190) dX9_classes_180 (by decide) ?_ ?_
  · skip
    exact hj190
  · skip
    refine sm_aload_n (pc := 183) (n := 0) dX9_classes_183 rfl ?_
    refine gf_X9_26 (pc := 184) rfl dX9_classes_184 ?_
    refine sm_iload_n (pc := 187) (n := 1) dX9_classes_187 rfl ?_
    refine sm_iconst (pc := 188) dX9_classes_188 zc_i_0 ?_
    refine sm_bastore (pc := 189) dX9_classes_189 ?_
    exact hj190
noncomputable def bX9_classes_130 {d : Nat} (P : zP d) (r84 : zK d) : zK d := (xist 3 (xild 4 (xild 3 (xmm zmax (xist 4 (xild 2 (xild 6 (xild 3 (xbin zmul (xbin zmul (xist 2 (xald 0 (xgfR 25 6 (xild 1 (xald 0 (xgfR 25 6 (xild 1 (xald1 0 (xald 0 (xgfR 25 6 (xild 1 (xald1 0 (xild 6 (xcS 2 0 0 f_X9_gcd (cX9_classes_168 P r84)))))))))))))))))))))))))
set_option maxRecDepth 100000 in
set_option maxHeartbeats 4000000 in
theorem sbX9_classes_130 {d : Nat} [zGh] (P : zP d) (r84 : zK d) (hr84 : zSim X_X9_classes 2 P 84 r84) : zSim X_X9_classes 2 P 130 (bX9_classes_130 P r84) := by
  unfold bX9_classes_130
  refine sm_istore_n (pc := 130) (n := 3) dX9_classes_130 rfl ?_
  refine sm_iload (pc := 131) (n := 4) dX9_classes_131 ?_
  refine sm_iload_n (pc := 133) (n := 3) dX9_classes_133 rfl ?_
  refine sm_mmax (pc := 134) wd_926 wd_104 wd_6 wd_105 (by decide) dX9_classes_134 ?_
  refine sm_istore (pc := 137) (n := 4) dX9_classes_137 ?_
  refine sm_iload_n (pc := 139) (n := 2) dX9_classes_139 rfl ?_
  refine sm_iload (pc := 140) (n := 6) dX9_classes_140 ?_
  refine sm_iload_n (pc := 142) (n := 3) dX9_classes_142 rfl ?_
  refine sm_imul (pc := 143) dX9_classes_143 ?_
  refine sm_imul (pc := 144) dX9_classes_144 ?_
  refine sm_istore_n (pc := 145) (n := 2) dX9_classes_145 rfl ?_
  refine sm_aload_n (pc := 146) (n := 0) dX9_classes_146 rfl ?_
  refine gf_X9_19 (pc := 147) rfl dX9_classes_147 ?_
  refine sm_iload_n (pc := 150) (n := 1) dX9_classes_150 rfl ?_
  refine sm_aload_n (pc := 151) (n := 0) dX9_classes_151 rfl ?_
  refine gf_X9_19 (pc := 152) rfl dX9_classes_152 ?_
  refine sm_iload_n (pc := 155) (n := 1) dX9_classes_155 rfl ?_
  refine sm_iaload (pc := 156) dX9_classes_156 ?_
  refine sm_aload_n (pc := 157) (n := 0) dX9_classes_157 rfl ?_
  refine gf_X9_19 (pc := 158) rfl dX9_classes_158 ?_
  refine sm_iload_n (pc := 161) (n := 1) dX9_classes_161 rfl ?_
  refine sm_iaload (pc := 162) dX9_classes_162 ?_
  refine sm_iload (pc := 163) (n := 6) dX9_classes_163 ?_
  refine sm_cS (pc := 165) (n := 2) (mc := 0) (ms := 0) m_X9_gcd (cr_X9_181 (X := X_X9_classes) (fr := 2) (frc := 1) (pc := 165) (mc := 0) (ms := 0) rfl (by decide) dX9_classes_165) ?_
  exact scX9_classes_168 P r84 hr84
noncomputable def bX9_classes_129 {d : Nat} (P : zP d) (j130 : zK d) : zK d := (xpI 1 j130)
set_option maxRecDepth 100000 in
set_option maxHeartbeats 4000000 in
theorem sbX9_classes_129 {d : Nat} [zGh] (P : zP d) (j130 : zK d) (hj130 : zSim X_X9_classes 2 P 130 j130) : zSim X_X9_classes 2 P 129 (bX9_classes_129 P j130) := by
  unfold bX9_classes_129
  refine sm_iconst (pc := 129) dX9_classes_129 zc_i_1 ?_
  exact hj130
noncomputable def cX9_classes_126 {d : Nat} (P : zP d) (j130 : zK d) : zK d := j130
set_option maxRecDepth 100000 in
set_option maxHeartbeats 4000000 in
theorem scX9_classes_126 {d : Nat} [zGh] (P : zP d) (j130 : zK d) (hj130 : zSim X_X9_classes 2 P 130 j130) : zSim X_X9_classes 2 P 126 (cX9_classes_126 P j130) := by
  unfold cX9_classes_126
  refine sm_goto (pc := 126) (tgt := 130) dX9_classes_126 (by decide) ?_
  exact hj130
noncomputable def lX9_classes_84 {d : Nat} (P : zP d) (r38 : zK d) (r84 : zK d) : zK d := (xild 5 (xald 0 (xgfR 25 4 (xild 1 (xald1 0 (xcmp tge (xald 0 (xgfR 25 7 (xild 1 (xild 4 (xald 0 (xgfI 25 1 (xjoin (bX9_classes_235 P r38) (fun j235 => (xcmp tge (xpI 0 j235) (xpI 1 j235)))))))))) (xald 0 (xild 1 (xild 5 (xcV 25 3 0 0 f_X9_partOf (xist 6 (xild 5 (xjoin (bX9_classes_130 P r84) (fun j130 => (xjoin (bX9_classes_129 P j130) (fun j129 => (xif0 t0le j129 (xald 0 (xild 1 (xild 5 (xpI 1 (xbin zsub (xcV 25 3 0 0 f_X9_partOf (xild 6 (xcmp Nat.beq (xild 3 (xpI 1 (xbin zadd (cX9_classes_126 P j130)))) j129)))))))))))))))))))))))))
set_option maxRecDepth 100000 in
set_option maxHeartbeats 4000000 in
theorem slX9_classes_84 {d : Nat} [zGh] (P : zP d) (r38 : zK d) (r84 : zK d) (hr38 : zSim X_X9_classes 2 P 38 r38) (hr84 : zSim X_X9_classes 2 P 84 r84) : zSim X_X9_classes 2 P 84 (lX9_classes_84 P r38 r84) := by
  unfold lX9_classes_84
  refine sm_iload (pc := 84) (n := 5) dX9_classes_84 ?_
  refine sm_aload_n (pc := 86) (n := 0) dX9_classes_86 rfl ?_
  refine gf_X9_13 (pc := 87) rfl dX9_classes_87 ?_
  refine sm_iload_n (pc := 90) (n := 1) dX9_classes_90 rfl ?_
  refine sm_iaload (pc := 91) dX9_classes_91 ?_
  refine sm_icmp_ge (pc := 92) (tgt := 216) dX9_classes_92 (by decide) ?_ ?_
  · skip
    refine sm_aload_n (pc := 216) (n := 0) dX9_classes_216 rfl ?_
    refine gf_X9_22 (pc := 217) rfl dX9_classes_217 ?_
    refine sm_iload_n (pc := 220) (n := 1) dX9_classes_220 rfl ?_
    refine sm_iload (pc := 221) (n := 4) dX9_classes_221 ?_
    refine sm_aload_n (pc := 223) (n := 0) dX9_classes_223 rfl ?_
    refine gf_X9_184 (pc := 224) rfl dX9_classes_224 ?_
    refine sm_join (pc := 227) (pc' := 235) (sbX9_classes_235 P r38 hr38) (fun j235 hj235 => ?_)
    refine sm_icmp_ge (pc := 227) (tgt := 234) dX9_classes_227 (by decide) ?_ ?_
    · skip
      refine sm_iconst (pc := 234) dX9_classes_234 zc_i_0 ?_
      exact hj235
    · skip
      refine sm_iconst (pc := 230) dX9_classes_230 zc_i_1 ?_
      refine sm_goto (pc := 231) (tgt := 235) dX9_classes_231 (by decide) ?_
      exact hj235
  · skip
    refine sm_aload_n (pc := 95) (n := 0) dX9_classes_95 rfl ?_
    refine sm_iload_n (pc := 96) (n := 1) dX9_classes_96 rfl ?_
    refine sm_iload (pc := 97) (n := 5) dX9_classes_97 ?_
    refine sm_cV (pc := 99) (ci := 9) (n := 3) (mc := 0) (ms := 0) rfl m_X9_partOf (cr_X9_175 (X := X_X9_classes) (fr := 2) (frc := 1) (pc := 99) (mc := 0) (ms := 0) rfl (by decide) dX9_classes_99) ?_
    refine sm_istore (pc := 102) (n := 6) dX9_classes_102 ?_
    refine sm_iload (pc := 104) (n := 5) dX9_classes_104 ?_
    refine sm_join (pc := 106) (pc' := 130) (sbX9_classes_130 P r84 hr84) (fun j130 hj130 => ?_)
    refine sm_join (pc := 106) (pc' := 129) (sbX9_classes_129 P j130 hj130) (fun j129 hj129 => ?_)
    refine sm_if_le (pc := 106) (tgt := 129) dX9_classes_106 (by decide) ?_ ?_
    · skip
      exact hj129
    · skip
      refine sm_aload_n (pc := 109) (n := 0) dX9_classes_109 rfl ?_
      refine sm_iload_n (pc := 110) (n := 1) dX9_classes_110 rfl ?_
      refine sm_iload (pc := 111) (n := 5) dX9_classes_111 ?_
      refine sm_iconst (pc := 113) dX9_classes_113 zc_i_1 ?_
      refine sm_isub (pc := 114) dX9_classes_114 ?_
      refine sm_cV (pc := 115) (ci := 9) (n := 3) (mc := 0) (ms := 0) rfl m_X9_partOf (cr_X9_175 (X := X_X9_classes) (fr := 2) (frc := 1) (pc := 115) (mc := 0) (ms := 0) rfl (by decide) dX9_classes_115) ?_
      refine sm_iload (pc := 118) (n := 6) dX9_classes_118 ?_
      refine sm_icmp_ne (pc := 120) (tgt := 129) dX9_classes_120 (by decide) ?_ ?_
      · skip
        exact hj129
      · skip
        refine sm_iload_n (pc := 123) (n := 3) dX9_classes_123 rfl ?_
        refine sm_iconst (pc := 124) dX9_classes_124 zc_i_1 ?_
        refine sm_iadd (pc := 125) dX9_classes_125 ?_
        exact scX9_classes_126 P j130 hj130
noncomputable def cX9_classes_73 {d : Nat} (P : zP d) (r38 : zK d) : zK d := (xast1 0 (fun v => v) (xald 0 (xgfR 25 7 (xild 1 (xpI 1 (xast1 1 (fun v => zand v 1) (xpI 0 (xist 5 (xloop (fun r84 => (lX9_classes_84 P r38 r84)) 100000)))))))))
set_option maxRecDepth 100000 in
set_option maxHeartbeats 4000000 in
theorem scX9_classes_73 {d : Nat} [zGh] (P : zP d) (r38 : zK d) (hr38 : zSim X_X9_classes 2 P 38 r38) : zSim X_X9_classes 2 P 73 (cX9_classes_73 P r38) := by
  unfold cX9_classes_73
  refine sm_iastore (pc := 73) dX9_classes_73 ?_
  refine sm_aload_n (pc := 74) (n := 0) dX9_classes_74 rfl ?_
  refine gf_X9_22 (pc := 75) rfl dX9_classes_75 ?_
  refine sm_iload_n (pc := 78) (n := 1) dX9_classes_78 rfl ?_
  refine sm_iconst (pc := 79) dX9_classes_79 zc_i_1 ?_
  refine sm_bastore (pc := 80) dX9_classes_80 ?_
  refine sm_iconst (pc := 81) dX9_classes_81 zc_i_0 ?_
  refine sm_istore (pc := 82) (n := 5) dX9_classes_82 ?_
  exact sm_loop (fun r84 hr84 => slX9_classes_84 P r38 r84 hr38 hr84) _
noncomputable def lX9_classes_38 {d : Nat} (P : zP d) (r38 : zK d) : zK d := (xild 1 (xald 0 (xgfI 25 2 (xcmp tge (xvret P) (xpI 1 (xist 2 (xpI 0 (xist 3 (xpI 0 (xist 4 (xald 0 (xgfR 25 6 (xild 1 (xpI 1 (xast1 0 (fun v => v) (xald 0 (xgfR 25 8 (xild 1 (xpI 1 (xast1 1 (fun v => zand v 1) (xald 0 (xgfR 25 9 (xild 1 (xpI 1 (cX9_classes_73 P r38)))))))))))))))))))))))))
set_option maxRecDepth 100000 in
set_option maxHeartbeats 4000000 in
theorem slX9_classes_38 {d : Nat} [zGh] (P : zP d) (r38 : zK d) (hr38 : zSim X_X9_classes 2 P 38 r38) : zSim X_X9_classes 2 P 38 (lX9_classes_38 P r38) := by
  unfold lX9_classes_38
  refine sm_iload_n (pc := 38) (n := 1) dX9_classes_38 rfl ?_
  refine sm_aload_n (pc := 39) (n := 0) dX9_classes_39 rfl ?_
  refine gf_X9_153 (pc := 40) rfl dX9_classes_40 ?_
  refine sm_icmp_ge (pc := 43) (tgt := 295) dX9_classes_43 (by decide) ?_ ?_
  · skip
    exact sm_vreturn (pc := 295) dX9_classes_295 rfl
  · skip
    refine sm_iconst (pc := 46) dX9_classes_46 zc_i_1 ?_
    refine sm_istore_n (pc := 47) (n := 2) dX9_classes_47 rfl ?_
    refine sm_iconst (pc := 48) dX9_classes_48 zc_i_0 ?_
    refine sm_istore_n (pc := 49) (n := 3) dX9_classes_49 rfl ?_
    refine sm_iconst (pc := 50) dX9_classes_50 zc_i_0 ?_
    refine sm_istore (pc := 51) (n := 4) dX9_classes_51 ?_
    refine sm_aload_n (pc := 53) (n := 0) dX9_classes_53 rfl ?_
    refine gf_X9_19 (pc := 54) rfl dX9_classes_54 ?_
    refine sm_iload_n (pc := 57) (n := 1) dX9_classes_57 rfl ?_
    refine sm_iconst (pc := 58) dX9_classes_58 zc_i_1 ?_
    refine sm_iastore (pc := 59) dX9_classes_59 ?_
    refine sm_aload_n (pc := 60) (n := 0) dX9_classes_60 rfl ?_
    refine gf_X9_26 (pc := 61) rfl dX9_classes_61 ?_
    refine sm_iload_n (pc := 64) (n := 1) dX9_classes_64 rfl ?_
    refine sm_iconst (pc := 65) dX9_classes_65 zc_i_1 ?_
    refine sm_bastore (pc := 66) dX9_classes_66 ?_
    refine sm_aload_n (pc := 67) (n := 0) dX9_classes_67 rfl ?_
    refine gf_X9_29 (pc := 68) rfl dX9_classes_68 ?_
    refine sm_iload_n (pc := 71) (n := 1) dX9_classes_71 rfl ?_
    refine sm_iconst (pc := 72) dX9_classes_72 zc_i_1 ?_
    exact scX9_classes_73 P r38 hr38
noncomputable def lX9_classes_7 {d : Nat} (P : zP d) (r7 : zK d) : zK d := (xild 1 (xald 0 (xgfI 25 0 (xcmp tle (xald 0 (xdup (xgfI 25 12 (xild 1 (xbin zmul (xpfI 25 12 (xinc 1 1 r7))))))) (xald 0 (xpI 0 (xpfI 25 11 (xpI 0 (xist 1 (xloop (fun r38 => (lX9_classes_38 P r38)) 100000))))))))))
set_option maxRecDepth 100000 in
set_option maxHeartbeats 4000000 in
theorem slX9_classes_7 {d : Nat} [zGh] (P : zP d) (r7 : zK d) (hr7 : zSim X_X9_classes 2 P 7 r7) : zSim X_X9_classes 2 P 7 (lX9_classes_7 P r7) := by
  unfold lX9_classes_7
  refine sm_iload_n (pc := 7) (n := 1) dX9_classes_7 rfl ?_
  refine sm_aload_n (pc := 8) (n := 0) dX9_classes_8 rfl ?_
  refine gf_X9_169 (pc := 9) rfl dX9_classes_9 ?_
  refine sm_icmp_gt (pc := 12) (tgt := 31) dX9_classes_12 (by decide) ?_ ?_
  · skip
    refine sm_aload_n (pc := 31) (n := 0) dX9_classes_31 rfl ?_
    refine sm_iconst (pc := 32) dX9_classes_32 zc_i_0 ?_
    refine pf_X9_172 (pc := 33) rfl dX9_classes_33 ?_
    refine sm_iconst (pc := 36) dX9_classes_36 zc_i_0 ?_
    refine sm_istore_n (pc := 37) (n := 1) dX9_classes_37 rfl ?_
    exact sm_loop (fun r38 hr38 => slX9_classes_38 P r38 hr38) _
  · skip
    refine sm_aload_n (pc := 15) (n := 0) dX9_classes_15 rfl ?_
    refine sm_dup (pc := 16) dX9_classes_16 ?_
    refine gf_X9_166 (pc := 17) rfl dX9_classes_17 ?_
    refine sm_iload_n (pc := 20) (n := 1) dX9_classes_20 rfl ?_
    refine sm_imul (pc := 21) dX9_classes_21 ?_
    refine pf_X9_166 (pc := 22) rfl dX9_classes_22 ?_
    refine sm_iinc (pc := 25) (n := 1) dX9_classes_25 zc_i_1 ?_
    refine sm_goto (pc := 28) (tgt := 7) dX9_classes_28 (by decide) ?_
    exact hr7
noncomputable def b_X9_classes {d : Nat} (P : zP d) : zK d := (xald 0 (xpI 1 (xpfI 25 12 (xpI 2 (xist 1 (xloop (fun r7 => (lX9_classes_7 P r7)) 100000))))))
set_option maxRecDepth 100000 in
set_option maxHeartbeats 4000000 in
theorem s_X9_classes {d : Nat} [zGh] (P : zP d) : zSim X_X9_classes 2 P 0 (b_X9_classes P) := by
  unfold b_X9_classes
  refine sm_aload_n (pc := 0) (n := 0) dX9_classes_0 rfl ?_
  refine sm_iconst (pc := 1) dX9_classes_1 zc_i_1 ?_
  refine pf_X9_166 (pc := 2) rfl dX9_classes_2 ?_
  refine sm_iconst (pc := 5) dX9_classes_5 zc_i_2 ?_
  refine sm_istore_n (pc := 6) (n := 1) dX9_classes_6 rfl ?_
  exact sm_loop (fun r7 hr7 => slX9_classes_7 P r7 hr7) _
noncomputable def f_X9_classes {d : Nat} : List zV → zH d → zP d → Bool := zfn 7 b_X9_classes
theorem m_X9_classes {d : Nat} : zMet (d := d) X_X9_classes yX9_classes 2 f_X9_classes := zmet_mk (X := X_X9_classes) (by decide) rfl rfl s_X9_classes

abbrev X_X9_beadsOf : zM := (RX9, cX9_beadsOf, 4, (some .int), "beadsOf")
noncomputable def lX9_beadsOf_4 {d : Nat} (P : zP d) (r4 : zK d) : zK d := (xild 3 (xpI 6 (xcmp tge (xild 2 (xiret P)) (xild 2 (xpI 1 (xald 0 (xild 1 (xild 3 (xcV 25 3 0 0 f_X9_partOf (xpI 5 (xbin zadd (xild 3 (xbin zsub (xbin zshl (xbin zor (xist 2 (xinc 3 1 r4)))))))))))))))))
set_option maxRecDepth 100000 in
set_option maxHeartbeats 4000000 in
theorem slX9_beadsOf_4 {d : Nat} [zGh] (P : zP d) (r4 : zK d) (hr4 : zSim X_X9_beadsOf 2 P 4 r4) : zSim X_X9_beadsOf 2 P 4 (lX9_beadsOf_4 P r4) := by
  unfold lX9_beadsOf_4
  refine sm_iload_n (pc := 4) (n := 3) dX9_beadsOf_4 rfl ?_
  refine sm_bipush (pc := 5) dX9_beadsOf_5 zc_b_6 ?_
  refine sm_icmp_ge (pc := 7) (tgt := 31) dX9_beadsOf_7 (by decide) ?_ ?_
  · skip
    refine sm_iload_n (pc := 31) (n := 2) dX9_beadsOf_31 rfl ?_
    exact sm_ireturn (pc := 32) dX9_beadsOf_32 rfl
  · skip
    refine sm_iload_n (pc := 10) (n := 2) dX9_beadsOf_10 rfl ?_
    refine sm_iconst (pc := 11) dX9_beadsOf_11 zc_i_1 ?_
    refine sm_aload_n (pc := 12) (n := 0) dX9_beadsOf_12 rfl ?_
    refine sm_iload_n (pc := 13) (n := 1) dX9_beadsOf_13 rfl ?_
    refine sm_iload_n (pc := 14) (n := 3) dX9_beadsOf_14 rfl ?_
    refine sm_cV (pc := 15) (ci := 9) (n := 3) (mc := 0) (ms := 0) rfl m_X9_partOf (cr_X9_175 (X := X_X9_beadsOf) (fr := 2) (frc := 1) (pc := 15) (mc := 0) (ms := 0) rfl (by decide) dX9_beadsOf_15) ?_
    refine sm_iconst (pc := 18) dX9_beadsOf_18 zc_i_5 ?_
    refine sm_iadd (pc := 19) dX9_beadsOf_19 ?_
    refine sm_iload_n (pc := 20) (n := 3) dX9_beadsOf_20 rfl ?_
    refine sm_isub (pc := 21) dX9_beadsOf_21 ?_
    refine sm_ishl (pc := 22) dX9_beadsOf_22 ?_
    refine sm_ior (pc := 23) dX9_beadsOf_23 ?_
    refine sm_istore_n (pc := 24) (n := 2) dX9_beadsOf_24 rfl ?_
    refine sm_iinc (pc := 25) (n := 3) dX9_beadsOf_25 zc_i_1 ?_
    refine sm_goto (pc := 28) (tgt := 4) dX9_beadsOf_28 (by decide) ?_
    exact hr4
noncomputable def b_X9_beadsOf {d : Nat} (P : zP d) : zK d := (xpI 0 (xist 2 (xpI 0 (xist 3 (xloop (fun r4 => (lX9_beadsOf_4 P r4)) 100000)))))
set_option maxRecDepth 100000 in
set_option maxHeartbeats 4000000 in
theorem s_X9_beadsOf {d : Nat} [zGh] (P : zP d) : zSim X_X9_beadsOf 2 P 0 (b_X9_beadsOf P) := by
  unfold b_X9_beadsOf
  refine sm_iconst (pc := 0) dX9_beadsOf_0 zc_i_0 ?_
  refine sm_istore_n (pc := 1) (n := 2) dX9_beadsOf_1 rfl ?_
  refine sm_iconst (pc := 2) dX9_beadsOf_2 zc_i_0 ?_
  refine sm_istore_n (pc := 3) (n := 3) dX9_beadsOf_3 rfl ?_
  exact sm_loop (fun r4 hr4 => slX9_beadsOf_4 P r4 hr4) _
noncomputable def f_X9_beadsOf {d : Nat} : List zV → zH d → zP d → Bool := zfn 4 b_X9_beadsOf
theorem m_X9_beadsOf {d : Nat} : zMet (d := d) X_X9_beadsOf yX9_beadsOf 2 f_X9_beadsOf := zmet_mk (X := X_X9_beadsOf) (by decide) rfl rfl s_X9_beadsOf
