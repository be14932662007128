/-! the reference, by program -/
abbrev X_J9_min_7cf53 : zM := (RJ9, cJ9_min_7cf53, 2, (some .int), "min")
noncomputable def b_J9_min_7cf53 {d : Nat} (P : zP d) : zK d := (xild 0 (xild 1 (xjoin (xiret P) (fun j10 => (xcmp tle (xild 0 j10) (xild 1 j10))))))
set_option maxRecDepth 100000 in
set_option maxHeartbeats 4000000 in
theorem s_J9_min_7cf53 {d : Nat} (P : zP d) : zSim X_J9_min_7cf53 1 P 0 (b_J9_min_7cf53 P) := by
  unfold b_J9_min_7cf53
  refine sm_iload_n (pc := 0) (n := 0) dJ9_min_7cf53_0 rfl ?_
  refine sm_iload_n (pc := 1) (n := 1) dJ9_min_7cf53_1 rfl ?_
  refine sm_join (pc := 2) (pc' := 10) ?_ (fun j10 hj10 => ?_)
  · skip
    exact sm_ireturn (pc := 10) dJ9_min_7cf53_10 rfl
  refine sm_icmp_gt (pc := 2) (tgt := 9) dJ9_min_7cf53_2 (by decide) ?_ ?_
  · skip
    refine sm_iload_n (pc := 9) (n := 1) dJ9_min_7cf53_9 rfl ?_
    exact hj10
  · skip
    refine sm_iload_n (pc := 5) (n := 0) dJ9_min_7cf53_5 rfl ?_
    refine sm_goto (pc := 6) (tgt := 10) dJ9_min_7cf53_6 (by decide) ?_
    exact hj10
noncomputable def f_J9_min_7cf53 {d : Nat} : List zV → zH d → zP d → Bool := zfn 2 b_J9_min_7cf53
theorem m_J9_min_7cf53 {d : Nat} : zMet (d := d) X_J9_min_7cf53 yJ9_min_7cf53 1 f_J9_min_7cf53 := zmet_mk (X := X_J9_min_7cf53) (by decide) rfl rfl s_J9_min_7cf53

abbrev X_J9_max_7cf53 : zM := (RJ9, cJ9_max_7cf53, 2, (some .int), "max")
noncomputable def b_J9_max_7cf53 {d : Nat} (P : zP d) : zK d := (xild 0 (xild 1 (xjoin (xiret P) (fun j10 => (xcmp tge (xild 0 j10) (xild 1 j10))))))
set_option maxRecDepth 100000 in
set_option maxHeartbeats 4000000 in
theorem s_J9_max_7cf53 {d : Nat} (P : zP d) : zSim X_J9_max_7cf53 1 P 0 (b_J9_max_7cf53 P) := by
  unfold b_J9_max_7cf53
  refine sm_iload_n (pc := 0) (n := 0) dJ9_max_7cf53_0 rfl ?_
  refine sm_iload_n (pc := 1) (n := 1) dJ9_max_7cf53_1 rfl ?_
  refine sm_join (pc := 2) (pc' := 10) ?_ (fun j10 hj10 => ?_)
  · skip
    exact sm_ireturn (pc := 10) dJ9_max_7cf53_10 rfl
  refine sm_icmp_lt (pc := 2) (tgt := 9) dJ9_max_7cf53_2 (by decide) ?_ ?_
  · skip
    refine sm_iload_n (pc := 9) (n := 1) dJ9_max_7cf53_9 rfl ?_
    exact hj10
  · skip
    refine sm_iload_n (pc := 5) (n := 0) dJ9_max_7cf53_5 rfl ?_
    refine sm_goto (pc := 6) (tgt := 10) dJ9_max_7cf53_6 (by decide) ?_
    exact hj10
noncomputable def f_J9_max_7cf53 {d : Nat} : List zV → zH d → zP d → Bool := zfn 2 b_J9_max_7cf53
theorem m_J9_max_7cf53 {d : Nat} : zMet (d := d) X_J9_max_7cf53 yJ9_max_7cf53 1 f_J9_max_7cf53 := zmet_mk (X := X_J9_max_7cf53) (by decide) rfl rfl s_J9_max_7cf53

abbrev X_X9_isIn : zM := (RX9, cX9_isIn, 6, (some .boolean), "isIn")
noncomputable def b_X9_isIn {d : Nat} (P : zP d) : zK d := (xlld 0 (xlld 2 (xlcmp (xjoin (xzret P) (fun j18 => (xjoin (xpI 0 j18) (fun j17 => (xif0 t0ge (xlld 0 (xlld 4 (xlcmp (xif0 t0le (xpI 1 j18) j17)))) j17))))))))
set_option maxRecDepth 100000 in
set_option maxHeartbeats 4000000 in
theorem s_X9_isIn {d : Nat} (P : zP d) : zSim X_X9_isIn 1 P 0 (b_X9_isIn P) := by
  unfold b_X9_isIn
  refine sm_lload_n (pc := 0) (n := 0) dX9_isIn_0 rfl ?_
  refine sm_lload_n (pc := 1) (n := 2) dX9_isIn_1 rfl ?_
  refine sm_lcmp (pc := 2) dX9_isIn_2 ?_
  refine sm_join (pc := 3) (pc' := 18) ?_ (fun j18 hj18 => ?_)
  · skip
    exact sm_zreturn (pc := 18) dX9_isIn_18 rfl
  refine sm_join (pc := 3) (pc' := 17) ?_ (fun j17 hj17 => ?_)
  · skip
    refine sm_iconst (pc := 17) dX9_isIn_17 zc_i_0 ?_
    exact hj18
  refine sm_if_lt (pc := 3) (tgt := 17) dX9_isIn_3 (by decide) ?_ ?_
  · skip
    exact hj17
  · skip
    refine sm_lload_n (pc := 6) (n := 0) dX9_isIn_6 rfl ?_
    refine sm_lload (pc := 7) (n := 4) dX9_isIn_7 ?_
    refine sm_lcmp (pc := 9) dX9_isIn_9 ?_
    refine sm_if_gt (pc := 10) (tgt := 17) dX9_isIn_10 (by decide) ?_ ?_
    · skip
      exact hj17
    · skip
      refine sm_iconst (pc := 13) dX9_isIn_13 zc_i_1 ?_
      refine sm_goto (pc := 14) (tgt := 18) dX9_isIn_14 (by decide) ?_
      exact hj18
noncomputable def f_X9_isIn {d : Nat} : List zV → zH d → zP d → Bool := zfn 6 b_X9_isIn
theorem m_X9_isIn {d : Nat} : zMet (d := d) X_X9_isIn yX9_isIn 1 f_X9_isIn := zmet_mk (X := X_X9_isIn) (by decide) rfl rfl s_X9_isIn

abbrev X_X9_one : zM := (RX9, cX9_one, 1, (some .int), "one")
noncomputable def b_X9_one {d : Nat} (P : zP d) : zK d := (xild 0 (xjoin (xiret P) (fun j9 => (xif0 t0eq (xpI 0 j9) (xpI 1 j9)))))
set_option maxRecDepth 100000 in
set_option maxHeartbeats 4000000 in
theorem s_X9_one {d : Nat} (P : zP d) : zSim X_X9_one 1 P 0 (b_X9_one P) := by
  unfold b_X9_one
  refine sm_iload_n (pc := 0) (n := 0) dX9_one_0 rfl ?_
  refine sm_join (pc := 1) (pc' := 9) ?_ (fun j9 hj9 => ?_)
  · skip
    exact sm_ireturn (pc := 9) dX9_one_9 rfl
  refine sm_if_eq (pc := 1) (tgt := 8) dX9_one_1 (by decide) ?_ ?_
  · skip
    refine sm_iconst (pc := 8) dX9_one_8 zc_i_0 ?_
    exact hj9
  · skip
    refine sm_iconst (pc := 4) dX9_one_4 zc_i_1 ?_
    refine sm_goto (pc := 5) (tgt := 9) dX9_one_5 (by decide) ?_
    exact hj9
noncomputable def f_X9_one {d : Nat} : List zV → zH d → zP d → Bool := zfn 1 b_X9_one
theorem m_X9_one {d : Nat} : zMet (d := d) X_X9_one yX9_one 1 f_X9_one := zmet_mk (X := X_X9_one) (by decide) rfl rfl s_X9_one

abbrev X_X9_bits : zM := (RX9, cX9_bits, 3, (some .int), "bits")
noncomputable def b_X9_bits {d : Nat} (P : zP d) : zK d := (xpI 0 (xist 1 (xild 0 (xist 2 (xloop (fun r4 => (xild 2 (xif0 t0eq (xild 1 (xiret P)) (xinc 1 1 (xild 2 (xild 2 (xpI 1 (xbin zsub (xbin zand (xist 2 r4)))))))))) 100000)))))
set_option maxRecDepth 100000 in
set_option maxHeartbeats 4000000 in
theorem s_X9_bits {d : Nat} (P : zP d) : zSim X_X9_bits 1 P 0 (b_X9_bits P) := by
  unfold b_X9_bits
  refine sm_iconst (pc := 0) dX9_bits_0 zc_i_0 ?_
  refine sm_istore_n (pc := 1) (n := 1) dX9_bits_1 rfl ?_
  refine sm_iload_n (pc := 2) (n := 0) dX9_bits_2 rfl ?_
  refine sm_istore_n (pc := 3) (n := 2) dX9_bits_3 rfl ?_
  refine sm_loop (fun r4 hr4 => ?_) _
  refine sm_iload_n (pc := 4) (n := 2) dX9_bits_4 rfl ?_
  refine sm_if_eq (pc := 5) (tgt := 20) dX9_bits_5 (by decide) ?_ ?_
  · skip
    refine sm_iload_n (pc := 20) (n := 1) dX9_bits_20 rfl ?_
    exact sm_ireturn (pc := 21) dX9_bits_21 rfl
  · skip
    refine sm_iinc (pc := 8) (n := 1) dX9_bits_8 zc_i_1 ?_
    refine sm_iload_n (pc := 11) (n := 2) dX9_bits_11 rfl ?_
    refine sm_iload_n (pc := 12) (n := 2) dX9_bits_12 rfl ?_
    refine sm_iconst (pc := 13) dX9_bits_13 zc_i_1 ?_
    refine sm_isub (pc := 14) dX9_bits_14 ?_
    refine sm_iand (pc := 15) dX9_bits_15 ?_
    refine sm_istore_n (pc := 16) (n := 2) dX9_bits_16 rfl ?_
    refine sm_goto (pc := 17) (tgt := 4) dX9_bits_17 (by decide) ?_
    exact hr4
noncomputable def f_X9_bits {d : Nat} : List zV → zH d → zP d → Bool := zfn 3 b_X9_bits
theorem m_X9_bits {d : Nat} : zMet (d := d) X_X9_bits yX9_bits 1 f_X9_bits := zmet_mk (X := X_X9_bits) (by decide) rfl rfl s_X9_bits

abbrev X_X9_partOf : zM := (RX9, cX9_partOf, 3, (some .int), "partOf")
noncomputable def b_X9_partOf {d : Nat} (P : zP d) : zK d := (xild 2 (xpI 6 (xjoin (xiret P) (fun j21 => (xcmp tge (xpI 0 j21) (xald 0 (xgfR 25 3 (xpI 6 (xild 1 (xbin zmul (xild 2 (xbin zadd (xald1 0 j21)))))))))))))
set_option maxRecDepth 100000 in
set_option maxHeartbeats 4000000 in
theorem s_X9_partOf {d : Nat} (P : zP d) : zSim X_X9_partOf 1 P 0 (b_X9_partOf P) := by
  unfold b_X9_partOf
  refine sm_iload_n (pc := 0) (n := 2) dX9_partOf_0 rfl ?_
  refine sm_bipush (pc := 1) dX9_partOf_1 zc_b_6 ?_
  refine sm_join (pc := 3) (pc' := 21) ?_ (fun j21 hj21 => ?_)
  · skip
    exact sm_ireturn (pc := 21) dX9_partOf_21 rfl
  refine sm_icmp_ge (pc := 3) (tgt := 20) dX9_partOf_3 (by decide) ?_ ?_
  · skip
    refine sm_iconst (pc := 20) dX9_partOf_20 zc_i_0 ?_
    exact hj21
  · skip
    refine sm_aload_n (pc := 6) (n := 0) dX9_partOf_6 rfl ?_
    refine sm_getfieldR (pc := 7) (ci := 9) (n := 3) (C := RX9) (T := TX9) (N := 63) rfl rfl inz9 rfl (by decide) rfl wd_1021 rfl dX9_partOf_7 ?_
    refine sm_bipush (pc := 10) dX9_partOf_10 zc_b_6 ?_
    refine sm_iload_n (pc := 12) (n := 1) dX9_partOf_12 rfl ?_
    refine sm_imul (pc := 13) dX9_partOf_13 ?_
    refine sm_iload_n (pc := 14) (n := 2) dX9_partOf_14 rfl ?_
    refine sm_iadd (pc := 15) dX9_partOf_15 ?_
    refine sm_iaload (pc := 16) dX9_partOf_16 ?_
    refine sm_goto (pc := 17) (tgt := 21) dX9_partOf_17 (by decide) ?_
    exact hj21
noncomputable def f_X9_partOf {d : Nat} : List zV → zH d → zP d → Bool := zfn 3 b_X9_partOf
theorem m_X9_partOf {d : Nat} : zMet (d := d) X_X9_partOf yX9_partOf 1 f_X9_partOf := zmet_mk (X := X_X9_partOf) (by decide) rfl rfl s_X9_partOf

abbrev X_X9_gcd : zM := (RX9, cX9_gcd, 5, (some .int), "gcd")
noncomputable def b_X9_gcd {d : Nat} (P : zP d) : zK d := (xild 0 (xist 2 (xild 1 (xist 3 (xloop (fun r4 => (xild 3 (xif0 t0eq (xild 2 (xiret P)) (xild 2 (xild 3 (xbinN zrem (xist 4 (xild 3 (xist 2 (xild 4 (xist 3 r4))))))))))) 100000)))))
set_option maxRecDepth 100000 in
set_option maxHeartbeats 4000000 in
theorem s_X9_gcd {d : Nat} (P : zP d) : zSim X_X9_gcd 1 P 0 (b_X9_gcd P) := by
  unfold b_X9_gcd
  refine sm_iload_n (pc := 0) (n := 0) dX9_gcd_0 rfl ?_
  refine sm_istore_n (pc := 1) (n := 2) dX9_gcd_1 rfl ?_
  refine sm_iload_n (pc := 2) (n := 1) dX9_gcd_2 rfl ?_
  refine sm_istore_n (pc := 3) (n := 3) dX9_gcd_3 rfl ?_
  refine sm_loop (fun r4 hr4 => ?_) _
  refine sm_iload_n (pc := 4) (n := 3) dX9_gcd_4 rfl ?_
  refine sm_if_eq (pc := 5) (tgt := 21) dX9_gcd_5 (by decide) ?_ ?_
  · skip
    refine sm_iload_n (pc := 21) (n := 2) dX9_gcd_21 rfl ?_
    exact sm_ireturn (pc := 22) dX9_gcd_22 rfl
  · skip
    refine sm_iload_n (pc := 8) (n := 2) dX9_gcd_8 rfl ?_
    refine sm_iload_n (pc := 9) (n := 3) dX9_gcd_9 rfl ?_
    refine sm_irem (pc := 10) dX9_gcd_10 ?_
    refine sm_istore (pc := 11) (n := 4) dX9_gcd_11 ?_
    refine sm_iload_n (pc := 13) (n := 3) dX9_gcd_13 rfl ?_
    refine sm_istore_n (pc := 14) (n := 2) dX9_gcd_14 rfl ?_
    refine sm_iload (pc := 15) (n := 4) dX9_gcd_15 ?_
    refine sm_istore_n (pc := 17) (n := 3) dX9_gcd_17 rfl ?_
    refine sm_goto (pc := 18) (tgt := 4) dX9_gcd_18 (by decide) ?_
    exact hr4
noncomputable def f_X9_gcd {d : Nat} : List zV → zH d → zP d → Bool := zfn 5 b_X9_gcd
theorem m_X9_gcd {d : Nat} : zMet (d := d) X_X9_gcd yX9_gcd 1 f_X9_gcd := zmet_mk (X := X_X9_gcd) (by decide) rfl rfl s_X9_gcd

abbrev X_X9_grows : zM := (RX9, cX9_grows, 5, none, "grows")
noncomputable def b_X9_grows {d : Nat} (self : List zV → zH d → zP d → Bool) (P : zP d) : zK d := (xild 2 (xif0 t0eq (xpI 0 (xist 4 (xloop (fun r7 => (xild 4 (xpI 6 (xcmp tge (xald 0 (xgfR 25 4 (xald 0 (xgfI 25 2 (xild 1 (xast1 0 (fun v => v) (xald 0 (xdup (xgfI 25 2 (xpI 1 (xbin zadd (xpfI 25 2 (xvret P))))))))))))) (xald 0 (xgfR 25 3 (xpI 6 (xald 0 (xgfI 25 2 (xbin zmul (xild 4 (xbin zadd (xild 4 (xild 1 (xjoin (xast1 0 (fun v => v) (xinc 4 1 r7)) (fun j45 => (xcmp tge (xpI 0 j45) (xald 0 (xgfR 25 13 (xild 4 (xald1 0 j45))))))))))))))))))))) 100000))) (xild 2 (xild 3 (xcS 2 0 0 f_J9_min_7cf53 (xist 4 (xloop (fun r80 => (xild 4 (xif0 t0le (xvret P) (xald 0 (xgfR 25 13 (xild 1 (xild 4 (xast1 0 (fun v => v) (xald 0 (xild 1 (xpI 1 (xbin zadd (xild 2 (xild 4 (xbin zsub (xild 4 (xcV 25 4 0 0 self (xinc 4 4294967295 r80)))))))))))))))))) 100000)))))))
set_option maxRecDepth 100000 in
set_option maxHeartbeats 4000000 in
theorem s_X9_grows {d : Nat} (n : Nat) (self : List zV → zH d → zP d → Bool) (hself : zMet X_X9_grows yX9_grows (1 + n) self) (P : zP d) : zSim X_X9_grows (1 + (n + 1)) P 0 (b_X9_grows self P) := by
  unfold b_X9_grows
  refine sm_iload_n (pc := 0) (n := 2) dX9_grows_0 rfl ?_
  refine sm_if_ne (pc := 1) (tgt := 73) dX9_grows_1 (by decide) ?_ ?_
  · skip
    refine sm_iload_n (pc := 73) (n := 2) dX9_grows_73 rfl ?_
    refine sm_iload_n (pc := 74) (n := 3) dX9_grows_74 rfl ?_
    refine sm_cS (pc := 75) (n := 2) (mc := 0) (ms := 0) m_J9_min_7cf53 (zrunS (n := 2) wd_77 wd_6 wd_917 wd_76 (by decide) (by omega) (by decide) dX9_grows_75) ?_
    refine sm_istore (pc := 78) (n := 4) dX9_grows_78 ?_
    refine sm_loop (fun r80 hr80 => ?_) _
    refine sm_iload (pc := 80) (n := 4) dX9_grows_80 ?_
    refine sm_if_le (pc := 82) (tgt := 112) dX9_grows_82 (by decide) ?_ ?_
    · skip
      exact sm_vreturn (pc := 112) dX9_grows_112 rfl
    · skip
      refine sm_aload_n (pc := 85) (n := 0) dX9_grows_85 rfl ?_
      refine sm_getfieldR (pc := 86) (ci := 9) (n := 13) (C := RX9) (T := TX9) (N := 63) rfl rfl inz9 rfl (by decide) rfl wd_1031 rfl dX9_grows_86 ?_
      refine sm_iload_n (pc := 89) (n := 1) dX9_grows_89 rfl ?_
      refine sm_iload (pc := 90) (n := 4) dX9_grows_90 ?_
      refine sm_iastore (pc := 92) dX9_grows_92 ?_
      refine sm_aload_n (pc := 93) (n := 0) dX9_grows_93 rfl ?_
      refine sm_iload_n (pc := 94) (n := 1) dX9_grows_94 rfl ?_
      refine sm_iconst (pc := 95) dX9_grows_95 zc_i_1 ?_
      refine sm_iadd (pc := 96) dX9_grows_96 ?_
      refine sm_iload_n (pc := 97) (n := 2) dX9_grows_97 rfl ?_
      refine sm_iload (pc := 98) (n := 4) dX9_grows_98 ?_
      refine sm_isub (pc := 100) dX9_grows_100 ?_
      refine sm_iload (pc := 101) (n := 4) dX9_grows_101 ?_
      refine sm_cV (pc := 103) (ci := 9) (n := 4) (mc := 0) (ms := 0) rfl hself (zrunV (n := 3) (ci := 9) rfl rfl wd_916 wd_14 wd_913 wd_915 ws_54 (by decide) (by omega) (by decide) dX9_grows_103) ?_
      refine sm_iinc (pc := 106) (n := 4) dX9_grows_106 zc_i_m1 ?_
      refine sm_goto (pc := 109) (tgt := 80) dX9_grows_109 (by decide) ?_
      exact hr80
  · skip
    refine sm_iconst (pc := 4) dX9_grows_4 zc_i_0 ?_
    refine sm_istore (pc := 5) (n := 4) dX9_grows_5 ?_
    refine sm_loop (fun r7 hr7 => ?_) _
    refine sm_iload (pc := 7) (n := 4) dX9_grows_7 ?_
    refine sm_bipush (pc := 9) dX9_grows_9 zc_b_6 ?_
    refine sm_icmp_ge (pc := 11) (tgt := 52) dX9_grows_11 (by decide) ?_ ?_
    · skip
      refine sm_aload_n (pc := 52) (n := 0) dX9_grows_52 rfl ?_
      refine sm_getfieldR (pc := 53) (ci := 9) (n := 4) (C := RX9) (T := TX9) (N := 63) rfl rfl inz9 rfl (by decide) rfl wd_1022 rfl dX9_grows_53 ?_
      refine sm_aload_n (pc := 56) (n := 0) dX9_grows_56 rfl ?_
      refine sm_getfieldI (pc := 57) (ci := 9) (n := 2) (C := RX9) (T := TX9) (N := 63) rfl rfl inz9 rfl (by decide) rfl wd_1020 rfl dX9_grows_57 ?_
      refine sm_iload_n (pc := 60) (n := 1) dX9_grows_60 rfl ?_
      refine sm_iastore (pc := 61) dX9_grows_61 ?_
      refine sm_aload_n (pc := 62) (n := 0) dX9_grows_62 rfl ?_
      refine sm_dup (pc := 63) dX9_grows_63 ?_
      refine sm_getfieldI (pc := 64) (ci := 9) (n := 2) (C := RX9) (T := TX9) (N := 63) rfl rfl inz9 rfl (by decide) rfl wd_1020 rfl dX9_grows_64 ?_
      refine sm_iconst (pc := 67) dX9_grows_67 zc_i_1 ?_
      refine sm_iadd (pc := 68) dX9_grows_68 ?_
      refine sm_putI (pc := 69) (ci := 9) (n := 2) (ty := tyX9 2) rfl (by decide) rfl rfl (zput (C := RX9) (T := TX9) (N := 63) (ty0 := tyX9) (ty := tyX9 2) inz9 tyX9_ok nmX9 rfl (by decide) wd_1020 rfl rfl dX9_grows_69) ?_
      exact sm_vreturn (pc := 72) dX9_grows_72 rfl
    · skip
      refine sm_aload_n (pc := 14) (n := 0) dX9_grows_14 rfl ?_
      refine sm_getfieldR (pc := 15) (ci := 9) (n := 3) (C := RX9) (T := TX9) (N := 63) rfl rfl inz9 rfl (by decide) rfl wd_1021 rfl dX9_grows_15 ?_
      refine sm_bipush (pc := 18) dX9_grows_18 zc_b_6 ?_
      refine sm_aload_n (pc := 20) (n := 0) dX9_grows_20 rfl ?_
      refine sm_getfieldI (pc := 21) (ci := 9) (n := 2) (C := RX9) (T := TX9) (N := 63) rfl rfl inz9 rfl (by decide) rfl wd_1020 rfl dX9_grows_21 ?_
      refine sm_imul (pc := 24) dX9_grows_24 ?_
      refine sm_iload (pc := 25) (n := 4) dX9_grows_25 ?_
      refine sm_iadd (pc := 27) dX9_grows_27 ?_
      refine sm_iload (pc := 28) (n := 4) dX9_grows_28 ?_
      refine sm_iload_n (pc := 30) (n := 1) dX9_grows_30 rfl ?_
      refine sm_join (pc := 31) (pc' := 45) ?_ (fun j45 hj45 => ?_)
      · skip
        refine sm_iastore (pc := 45) dX9_grows_45 ?_
        refine sm_iinc (pc := 46) (n := 4) dX9_grows_46 zc_i_1 ?_
        refine sm_goto (pc := 49) (tgt := 7) dX9_grows_49 (by decide) ?_
        exact hr7
      refine sm_icmp_ge (pc := 31) (tgt := 44) dX9_grows_31 (by decide) ?_ ?_
      · skip
        refine sm_iconst (pc := 44) dX9_grows_44 zc_i_0 ?_
        exact hj45
      · skip
        refine sm_aload_n (pc := 34) (n := 0) dX9_grows_34 rfl ?_
        refine sm_getfieldR (pc := 35) (ci := 9) (n := 13) (C := RX9) (T := TX9) (N := 63) rfl rfl inz9 rfl (by decide) rfl wd_1031 rfl dX9_grows_35 ?_
        refine sm_iload (pc := 38) (n := 4) dX9_grows_38 ?_
        refine sm_iaload (pc := 40) dX9_grows_40 ?_
        refine sm_goto (pc := 41) (tgt := 45) dX9_grows_41 (by decide) ?_
        exact hj45
noncomputable def f_X9_grows {d : Nat} : List zV → zH d → zP d → Bool := zrec 5 b_X9_grows 8
theorem m_X9_grows {d : Nat} : zMet (d := d) X_X9_grows yX9_grows 9 f_X9_grows := zmet_rec (X := X_X9_grows) (fr := 1) (by decide) rfl rfl (fun n f hf P => s_X9_grows n f hf P) 8

abbrev X_X9_classes : zM := (RX9, cX9_classes, 7, none, "classes")
noncomputable def b_X9_classes {d : Nat} (P : zP d) : zK d := (xald 0 (xpI 1 (xpfI 25 12 (xpI 2 (xist 1 (xloop (fun r7 => (xild 1 (xald 0 (xgfI 25 0 (xcmp tle (xald 0 (xdup (xgfI 25 12 (xild 1 (xbin zmul (xpfI 25 12 (xinc 1 1 r7))))))) (xald 0 (xpI 0 (xpfI 25 11 (xpI 0 (xist 1 (xloop (fun r38 => (xild 1 (xald 0 (xgfI 25 2 (xcmp tge (xvret P) (xpI 1 (xist 2 (xpI 0 (xist 3 (xpI 0 (xist 4 (xald 0 (xgfR 25 6 (xild 1 (xpI 1 (xast1 0 (fun v => v) (xald 0 (xgfR 25 8 (xild 1 (xpI 1 (xast1 1 (fun v => zand v 1) (xald 0 (xgfR 25 9 (xild 1 (xpI 1 (xast1 0 (fun v => v) (xald 0 (xgfR 25 7 (xild 1 (xpI 1 (xast1 1 (fun v => zand v 1) (xpI 0 (xist 5 (xloop (fun r84 => (xild 5 (xald 0 (xgfR 25 4 (xild 1 (xald1 0 (xcmp tge (xald 0 (xgfR 25 7 (xild 1 (xild 4 (xald 0 (xgfI 25 1 (xjoin (xast1 1 (fun v => zand v 1) (xald 0 (xgfR 25 5 (xild 1 (xald 0 (xgfI 25 12 (xild 2 (xbinN zdiv (xast1 0 (fun v => v) (xald 0 (xgfR 25 10 (xild 1 (xald 0 (xgfR 25 7 (xild 1 (xald1 1 (xjoin (xast1 0 (fun v => v) (xald 0 (xdup (xgfI 25 11 (xald 0 (xgfR 25 7 (xild 1 (xald1 1 (xcS 1 0 0 f_X9_one (xbin zadd (xpfI 25 11 (xinc 1 1 r38)))))))))))) (fun j270 => (xif0 t0eq (xpI 4294967295 j270) (xald 0 (xgfI 25 11 j270))))))))))))))))))))) (fun j235 => (xcmp tge (xpI 0 j235) (xpI 1 j235)))))))))) (xald 0 (xild 1 (xild 5 (xcV 25 3 0 0 f_X9_partOf (xist 6 (xild 5 (xjoin (xist 3 (xild 4 (xild 3 (xcS 2 0 0 f_J9_max_7cf53 (xist 4 (xild 2 (xild 6 (xild 3 (xbin zmul (xbin zmul (xist 2 (xald 0 (xgfR 25 6 (xild 1 (xald 0 (xgfR 25 6 (xild 1 (xald1 0 (xald 0 (xgfR 25 6 (xild 1 (xald1 0 (xild 6 (xcS 2 0 0 f_X9_gcd (xbinN zdiv (xild 6 (xbin zmul (xast1 0 (fun v => v) (xild 6 (xald 0 (xgfI 25 1 (xbinN zrem (xjoin (xild 6 (xpI 2 (xbinN zrem (xjoin (xinc 5 1 r84) (fun j210 => (xif0 t0eq (xald 0 (xgfR 25 9 (xild 1 (xald 0 (xgfR 25 9 (xild 1 (xald1 0 (xun zneg (xast1 0 (fun v => v) j210))))))))) j210)))))) (fun j190 => (xif0 t0eq (xald 0 (xgfR 25 8 (xild 1 (xpI 0 (xast1 1 (fun v => zand v 1) j190))))) j190))))))))))))))))))))))))))))))))))) (fun j130 => (xjoin (xpI 1 j130) (fun j129 => (xif0 t0le j129 (xald 0 (xild 1 (xild 5 (xpI 1 (xbin zsub (xcV 25 3 0 0 f_X9_partOf (xild 6 (xcmp Nat.beq (xild 3 (xpI 1 (xbin zadd j130))) j129)))))))))))))))))))))))))) 100000)))))))))))))))))))))))))))))))))) 100000))))))))))) 100000))))))
set_option maxRecDepth 100000 in
set_option maxHeartbeats 4000000 in
theorem s_X9_classes {d : Nat} (P : zP d) : zSim X_X9_classes 2 P 0 (b_X9_classes P) := by
  unfold b_X9_classes
  refine sm_aload_n (pc := 0) (n := 0) dX9_classes_0 rfl ?_
  refine sm_iconst (pc := 1) dX9_classes_1 zc_i_1 ?_
  refine sm_putI (pc := 2) (ci := 9) (n := 12) (ty := tyX9 12) rfl (by decide) rfl rfl (zput (C := RX9) (T := TX9) (N := 63) (ty0 := tyX9) (ty := tyX9 12) inz9 tyX9_ok nmX9 rfl (by decide) wd_1030 rfl rfl dX9_classes_2) ?_
  refine sm_iconst (pc := 5) dX9_classes_5 zc_i_2 ?_
  refine sm_istore_n (pc := 6) (n := 1) dX9_classes_6 rfl ?_
  refine sm_loop (fun r7 hr7 => ?_) _
  refine sm_iload_n (pc := 7) (n := 1) dX9_classes_7 rfl ?_
  refine sm_aload_n (pc := 8) (n := 0) dX9_classes_8 rfl ?_
  refine sm_getfieldI (pc := 9) (ci := 9) (n := 0) (C := RX9) (T := TX9) (N := 63) rfl rfl inz9 rfl (by decide) rfl wd_1018 rfl dX9_classes_9 ?_
  refine sm_icmp_gt (pc := 12) (tgt := 31) dX9_classes_12 (by decide) ?_ ?_
  · skip
    refine sm_aload_n (pc := 31) (n := 0) dX9_classes_31 rfl ?_
    refine sm_iconst (pc := 32) dX9_classes_32 zc_i_0 ?_
    refine sm_putI (pc := 33) (ci := 9) (n := 11) (ty := tyX9 11) rfl (by decide) rfl rfl (zput (C := RX9) (T := TX9) (N := 63) (ty0 := tyX9) (ty := tyX9 11) inz9 tyX9_ok nmX9 rfl (by decide) wd_1029 rfl rfl dX9_classes_33) ?_
    refine sm_iconst (pc := 36) dX9_classes_36 zc_i_0 ?_
    refine sm_istore_n (pc := 37) (n := 1) dX9_classes_37 rfl ?_
    refine sm_loop (fun r38 hr38 => ?_) _
    refine sm_iload_n (pc := 38) (n := 1) dX9_classes_38 rfl ?_
    refine sm_aload_n (pc := 39) (n := 0) dX9_classes_39 rfl ?_
    refine sm_getfieldI (pc := 40) (ci := 9) (n := 2) (C := RX9) (T := TX9) (N := 63) rfl rfl inz9 rfl (by decide) rfl wd_1020 rfl dX9_classes_40 ?_
    refine sm_icmp_ge (pc := 43) (tgt := 295) dX9_classes_43 (by decide) ?_ ?_
    · skip
      exact sm_vreturn (pc := 295) dX9_classes_295 rfl
    · skip
      refine sm_iconst (pc := 46) dX9_classes_46 zc_i_1 ?_
      refine sm_istore_n (pc := 47) (n := 2) dX9_classes_47 rfl ?_
      refine sm_iconst (pc := 48) dX9_classes_48 zc_i_0 ?_
      refine sm_istore_n (pc := 49) (n := 3) dX9_classes_49 rfl ?_
      refine sm_iconst (pc := 50) dX9_classes_50 zc_i_0 ?_
      refine sm_istore (pc := 51) (n := 4) dX9_classes_51 ?_
      refine sm_aload_n (pc := 53) (n := 0) dX9_classes_53 rfl ?_
      refine sm_getfieldR (pc := 54) (ci := 9) (n := 6) (C := RX9) (T := TX9) (N := 63) rfl rfl inz9 rfl (by decide) rfl wd_1024 rfl dX9_classes_54 ?_
      refine sm_iload_n (pc := 57) (n := 1) dX9_classes_57 rfl ?_
      refine sm_iconst (pc := 58) dX9_classes_58 zc_i_1 ?_
      refine sm_iastore (pc := 59) dX9_classes_59 ?_
      refine sm_aload_n (pc := 60) (n := 0) dX9_classes_60 rfl ?_
      refine sm_getfieldR (pc := 61) (ci := 9) (n := 8) (C := RX9) (T := TX9) (N := 63) rfl rfl inz9 rfl (by decide) rfl wd_1026 rfl dX9_classes_61 ?_
      refine sm_iload_n (pc := 64) (n := 1) dX9_classes_64 rfl ?_
      refine sm_iconst (pc := 65) dX9_classes_65 zc_i_1 ?_
      refine sm_bastore (pc := 66) dX9_classes_66 ?_
      refine sm_aload_n (pc := 67) (n := 0) dX9_classes_67 rfl ?_
      refine sm_getfieldR (pc := 68) (ci := 9) (n := 9) (C := RX9) (T := TX9) (N := 63) rfl rfl inz9 rfl (by decide) rfl wd_1027 rfl dX9_classes_68 ?_
      refine sm_iload_n (pc := 71) (n := 1) dX9_classes_71 rfl ?_
      refine sm_iconst (pc := 72) dX9_classes_72 zc_i_1 ?_
      refine sm_iastore (pc := 73) dX9_classes_73 ?_
      refine sm_aload_n (pc := 74) (n := 0) dX9_classes_74 rfl ?_
      refine sm_getfieldR (pc := 75) (ci := 9) (n := 7) (C := RX9) (T := TX9) (N := 63) rfl rfl inz9 rfl (by decide) rfl wd_1025 rfl dX9_classes_75 ?_
      refine sm_iload_n (pc := 78) (n := 1) dX9_classes_78 rfl ?_
      refine sm_iconst (pc := 79) dX9_classes_79 zc_i_1 ?_
      refine sm_bastore (pc := 80) dX9_classes_80 ?_
      refine sm_iconst (pc := 81) dX9_classes_81 zc_i_0 ?_
      refine sm_istore (pc := 82) (n := 5) dX9_classes_82 ?_
      refine sm_loop (fun r84 hr84 => ?_) _
      refine sm_iload (pc := 84) (n := 5) dX9_classes_84 ?_
      refine sm_aload_n (pc := 86) (n := 0) dX9_classes_86 rfl ?_
      refine sm_getfieldR (pc := 87) (ci := 9) (n := 4) (C := RX9) (T := TX9) (N := 63) rfl rfl inz9 rfl (by decide) rfl wd_1022 rfl dX9_classes_87 ?_
      refine sm_iload_n (pc := 90) (n := 1) dX9_classes_90 rfl ?_
      refine sm_iaload (pc := 91) dX9_classes_91 ?_
      refine sm_icmp_ge (pc := 92) (tgt := 216) dX9_classes_92 (by decide) ?_ ?_
      · skip
        refine sm_aload_n (pc := 216) (n := 0) dX9_classes_216 rfl ?_
        refine sm_getfieldR (pc := 217) (ci := 9) (n := 7) (C := RX9) (T := TX9) (N := 63) rfl rfl inz9 rfl (by decide) rfl wd_1025 rfl dX9_classes_217 ?_
        refine sm_iload_n (pc := 220) (n := 1) dX9_classes_220 rfl ?_
        refine sm_iload (pc := 221) (n := 4) dX9_classes_221 ?_
        refine sm_aload_n (pc := 223) (n := 0) dX9_classes_223 rfl ?_
        refine sm_getfieldI (pc := 224) (ci := 9) (n := 1) (C := RX9) (T := TX9) (N := 63) rfl rfl inz9 rfl (by decide) rfl wd_1019 rfl dX9_classes_224 ?_
        refine sm_join (pc := 227) (pc' := 235) ?_ (fun j235 hj235 => ?_)
        · skip
          refine sm_bastore (pc := 235) dX9_classes_235 ?_
          refine sm_aload_n (pc := 236) (n := 0) dX9_classes_236 rfl ?_
          refine sm_getfieldR (pc := 237) (ci := 9) (n := 5) (C := RX9) (T := TX9) (N := 63) rfl rfl inz9 rfl (by decide) rfl wd_1023 rfl dX9_classes_237 ?_
          refine sm_iload_n (pc := 240) (n := 1) dX9_classes_240 rfl ?_
          refine sm_aload_n (pc := 241) (n := 0) dX9_classes_241 rfl ?_
          refine sm_getfieldI (pc := 242) (ci := 9) (n := 12) (C := RX9) (T := TX9) (N := 63) rfl rfl inz9 rfl (by decide) rfl wd_1030 rfl dX9_classes_242 ?_
          refine sm_iload_n (pc := 245) (n := 2) dX9_classes_245 rfl ?_
          refine sm_idiv (pc := 246) dX9_classes_246 ?_
          refine sm_iastore (pc := 247) dX9_classes_247 ?_
          refine sm_aload_n (pc := 248) (n := 0) dX9_classes_248 rfl ?_
          refine sm_getfieldR (pc := 249) (ci := 9) (n := 10) (C := RX9) (T := TX9) (N := 63) rfl rfl inz9 rfl (by decide) rfl wd_1028 rfl dX9_classes_249 ?_
          refine sm_iload_n (pc := 252) (n := 1) dX9_classes_252 rfl ?_
          refine sm_aload_n (pc := 253) (n := 0) dX9_classes_253 rfl ?_
          refine sm_getfieldR (pc := 254) (ci := 9) (n := 7) (C := RX9) (T := TX9) (N := 63) rfl rfl inz9 rfl (by decide) rfl wd_1025 rfl dX9_classes_254 ?_
          refine sm_iload_n (pc := 257) (n := 1) dX9_classes_257 rfl ?_
          refine sm_baload (pc := 258) dX9_classes_258 ?_
          refine sm_join (pc := 259) (pc' := 270) ?_ (fun j270 hj270 => ?_)
          · skip
            refine sm_iastore (pc := 270) dX9_classes_270 ?_
            refine sm_aload_n (pc := 271) (n := 0) dX9_classes_271 rfl ?_
            refine sm_dup (pc := 272) dX9_classes_272 ?_
            refine sm_getfieldI (pc := 273) (ci := 9) (n := 11) (C := RX9) (T := TX9) (N := 63) rfl rfl inz9 rfl (by decide) rfl wd_1029 rfl dX9_classes_273 ?_
            refine sm_aload_n (pc := 276) (n := 0) dX9_classes_276 rfl ?_
            refine sm_getfieldR (pc := 277) (ci := 9) (n := 7) (C := RX9) (T := TX9) (N := 63) rfl rfl inz9 rfl (by decide) rfl wd_1025 rfl dX9_classes_277 ?_
            refine sm_iload_n (pc := 280) (n := 1) dX9_classes_280 rfl ?_
            refine sm_baload (pc := 281) dX9_classes_281 ?_
            refine sm_cS (pc := 282) (n := 1) (mc := 0) (ms := 0) m_X9_one (zrunS (n := 1) wd_932 wd_14 wd_930 wd_931 (by decide) (by decide) (by decide) dX9_classes_282) ?_
            refine sm_iadd (pc := 285) dX9_classes_285 ?_
            refine sm_putI (pc := 286) (ci := 9) (n := 11) (ty := tyX9 11) rfl (by decide) rfl rfl (zput (C := RX9) (T := TX9) (N := 63) (ty0 := tyX9) (ty := tyX9 11) inz9 tyX9_ok nmX9 rfl (by decide) wd_1029 rfl rfl dX9_classes_286) ?_
            refine sm_iinc (pc := 289) (n := 1) dX9_classes_289 zc_i_1 ?_
            refine sm_goto (pc := 292) (tgt := 38) dX9_classes_292 (by decide) ?_
            exact hr38
          refine sm_if_eq (pc := 259) (tgt := 269) dX9_classes_259 (by decide) ?_ ?_
          · skip
            refine sm_iconst (pc := 269) dX9_classes_269 zc_i_m1 ?_
            exact hj270
          · skip
            refine sm_aload_n (pc := 262) (n := 0) dX9_classes_262 rfl ?_
            refine sm_getfieldI (pc := 263) (ci := 9) (n := 11) (C := RX9) (T := TX9) (N := 63) rfl rfl inz9 rfl (by decide) rfl wd_1029 rfl dX9_classes_263 ?_
            refine sm_goto (pc := 266) (tgt := 270) dX9_classes_266 (by decide) ?_
            exact hj270
        refine sm_icmp_ge (pc := 227) (tgt := 234) dX9_classes_227 (by decide) ?_ ?_
        · skip
          refine sm_iconst (pc := 234) dX9_classes_234 zc_i_0 ?_
          exact hj235
        · skip
          refine sm_iconst (pc := 230) dX9_classes_230 zc_i_1 ?_
          refine sm_goto (pc := 231) (tgt := 235) dX9_classes_231 (by decide) ?_
          exact hj235
      · skip
        refine sm_aload_n (pc := 95) (n := 0) dX9_classes_95 rfl ?_
        refine sm_iload_n (pc := 96) (n := 1) dX9_classes_96 rfl ?_
        refine sm_iload (pc := 97) (n := 5) dX9_classes_97 ?_
        refine sm_cV (pc := 99) (ci := 9) (n := 3) (mc := 0) (ms := 0) rfl m_X9_partOf (zrunV (n := 2) (ci := 9) rfl rfl wd_925 wd_14 wd_922 wd_924 ws_56 (by decide) (by decide) (by decide) dX9_classes_99) ?_
        refine sm_istore (pc := 102) (n := 6) dX9_classes_102 ?_
        refine sm_iload (pc := 104) (n := 5) dX9_classes_104 ?_
        refine sm_join (pc := 106) (pc' := 130) ?_ (fun j130 hj130 => ?_)
        · skip
          refine sm_istore_n (pc := 130) (n := 3) dX9_classes_130 rfl ?_
          refine sm_iload (pc := 131) (n := 4) dX9_classes_131 ?_
          refine sm_iload_n (pc := 133) (n := 3) dX9_classes_133 rfl ?_
          refine sm_cS (pc := 134) (n := 2) (mc := 0) (ms := 0) m_J9_max_7cf53 (zrunS (n := 2) wd_105 wd_6 wd_926 wd_104 (by decide) (by decide) (by decide) dX9_classes_134) ?_
          refine sm_istore (pc := 137) (n := 4) dX9_classes_137 ?_
          refine sm_iload_n (pc := 139) (n := 2) dX9_classes_139 rfl ?_
          refine sm_iload (pc := 140) (n := 6) dX9_classes_140 ?_
          refine sm_iload_n (pc := 142) (n := 3) dX9_classes_142 rfl ?_
          refine sm_imul (pc := 143) dX9_classes_143 ?_
          refine sm_imul (pc := 144) dX9_classes_144 ?_
          refine sm_istore_n (pc := 145) (n := 2) dX9_classes_145 rfl ?_
          refine sm_aload_n (pc := 146) (n := 0) dX9_classes_146 rfl ?_
          refine sm_getfieldR (pc := 147) (ci := 9) (n := 6) (C := RX9) (T := TX9) (N := 63) rfl rfl inz9 rfl (by decide) rfl wd_1024 rfl dX9_classes_147 ?_
          refine sm_iload_n (pc := 150) (n := 1) dX9_classes_150 rfl ?_
          refine sm_aload_n (pc := 151) (n := 0) dX9_classes_151 rfl ?_
          refine sm_getfieldR (pc := 152) (ci := 9) (n := 6) (C := RX9) (T := TX9) (N := 63) rfl rfl inz9 rfl (by decide) rfl wd_1024 rfl dX9_classes_152 ?_
          refine sm_iload_n (pc := 155) (n := 1) dX9_classes_155 rfl ?_
          refine sm_iaload (pc := 156) dX9_classes_156 ?_
          refine sm_aload_n (pc := 157) (n := 0) dX9_classes_157 rfl ?_
          refine sm_getfieldR (pc := 158) (ci := 9) (n := 6) (C := RX9) (T := TX9) (N := 63) rfl rfl inz9 rfl (by decide) rfl wd_1024 rfl dX9_classes_158 ?_
          refine sm_iload_n (pc := 161) (n := 1) dX9_classes_161 rfl ?_
          refine sm_iaload (pc := 162) dX9_classes_162 ?_
          refine sm_iload (pc := 163) (n := 6) dX9_classes_163 ?_
          refine sm_cS (pc := 165) (n := 2) (mc := 0) (ms := 0) m_X9_gcd (zrunS (n := 2) wd_929 wd_14 wd_927 wd_928 (by decide) (by decide) (by decide) dX9_classes_165) ?_
          refine sm_idiv (pc := 168) dX9_classes_168 ?_
          refine sm_iload (pc := 169) (n := 6) dX9_classes_169 ?_
          refine sm_imul (pc := 171) dX9_classes_171 ?_
          refine sm_iastore (pc := 172) dX9_classes_172 ?_
          refine sm_iload (pc := 173) (n := 6) dX9_classes_173 ?_
          refine sm_aload_n (pc := 175) (n := 0) dX9_classes_175 rfl ?_
          refine sm_getfieldI (pc := 176) (ci := 9) (n := 1) (C := RX9) (T := TX9) (N := 63) rfl rfl inz9 rfl (by decide) rfl wd_1019 rfl dX9_classes_176 ?_
          refine sm_irem (pc := 179) dX9_classes_179 ?_
          refine sm_join (pc := 180) (pc' := 190) ?_ (fun j190 hj190 => ?_)
          · skip
            refine sm_iload (pc := 190) (n := 6) dX9_classes_190 ?_
            refine sm_iconst (pc := 192) dX9_classes_192 zc_i_2 ?_
            refine sm_irem (pc := 193) dX9_classes_193 ?_
            refine sm_join (pc := 194) (pc' := 210) ?_ (fun j210 hj210 => ?_)
            · skip
              refine sm_iinc (pc := 210) (n := 5) dX9_classes_210 zc_i_1 ?_
              refine sm_goto (pc := 213) (tgt := 84) dX9_classes_213 (by decide) ?_
              exact hr84
            refine sm_if_ne (pc := 194) (tgt := 210) dX9_classes_194 (by decide) ?_ ?_
            · skip
              exact hj210
            · skip
              refine sm_aload_n (pc := 197) (n := 0) dX9_classes_197 rfl ?_
              refine sm_getfieldR (pc := 198) (ci := 9) (n := 9) (C := RX9) (T := TX9) (N := 63) rfl rfl inz9 rfl (by decide) rfl wd_1027 rfl dX9_classes_198 ?_
              refine sm_iload_n (pc := 201) (n := 1) dX9_classes_201 rfl ?_
              refine sm_aload_n (pc := 202) (n := 0) dX9_classes_202 rfl ?_
              refine sm_getfieldR (pc := 203) (ci := 9) (n := 9) (C := RX9) (T := TX9) (N := 63) rfl rfl inz9 rfl (by decide) rfl wd_1027 rfl dX9_classes_203 ?_
              refine sm_iload_n (pc := 206) (n := 1) dX9_classes_206 rfl ?_
              refine sm_iaload (pc := 207) dX9_classes_207 ?_
              refine sm_ineg (pc := 208) dX9_classes_208 ?_
              refine sm_iastore (pc := 209) dX9_classes_209 ?_
              exact hj210
          refine sm_if_ne (pc := 180) (tgt := 190) dX9_classes_180 (by decide) ?_ ?_
          · skip
            exact hj190
          · skip
            refine sm_aload_n (pc := 183) (n := 0) dX9_classes_183 rfl ?_
            refine sm_getfieldR (pc := 184) (ci := 9) (n := 8) (C := RX9) (T := TX9) (N := 63) rfl rfl inz9 rfl (by decide) rfl wd_1026 rfl dX9_classes_184 ?_
            refine sm_iload_n (pc := 187) (n := 1) dX9_classes_187 rfl ?_
            refine sm_iconst (pc := 188) dX9_classes_188 zc_i_0 ?_
            refine sm_bastore (pc := 189) dX9_classes_189 ?_
            exact hj190
        refine sm_join (pc := 106) (pc' := 129) ?_ (fun j129 hj129 => ?_)
        · skip
          refine sm_iconst (pc := 129) dX9_classes_129 zc_i_1 ?_
          exact hj130
        refine sm_if_le (pc := 106) (tgt := 129) dX9_classes_106 (by decide) ?_ ?_
        · skip
          exact hj129
        · skip
          refine sm_aload_n (pc := 109) (n := 0) dX9_classes_109 rfl ?_
          refine sm_iload_n (pc := 110) (n := 1) dX9_classes_110 rfl ?_
          refine sm_iload (pc := 111) (n := 5) dX9_classes_111 ?_
          refine sm_iconst (pc := 113) dX9_classes_113 zc_i_1 ?_
          refine sm_isub (pc := 114) dX9_classes_114 ?_
          refine sm_cV (pc := 115) (ci := 9) (n := 3) (mc := 0) (ms := 0) rfl m_X9_partOf (zrunV (n := 2) (ci := 9) rfl rfl wd_925 wd_14 wd_922 wd_924 ws_56 (by decide) (by decide) (by decide) dX9_classes_115) ?_
          refine sm_iload (pc := 118) (n := 6) dX9_classes_118 ?_
          refine sm_icmp_ne (pc := 120) (tgt := 129) dX9_classes_120 (by decide) ?_ ?_
          · skip
            exact hj129
          · skip
            refine sm_iload_n (pc := 123) (n := 3) dX9_classes_123 rfl ?_
            refine sm_iconst (pc := 124) dX9_classes_124 zc_i_1 ?_
            refine sm_iadd (pc := 125) dX9_classes_125 ?_
            refine sm_goto (pc := 126) (tgt := 130) dX9_classes_126 (by decide) ?_
            exact hj130
  · skip
    refine sm_aload_n (pc := 15) (n := 0) dX9_classes_15 rfl ?_
    refine sm_dup (pc := 16) dX9_classes_16 ?_
    refine sm_getfieldI (pc := 17) (ci := 9) (n := 12) (C := RX9) (T := TX9) (N := 63) rfl rfl inz9 rfl (by decide) rfl wd_1030 rfl dX9_classes_17 ?_
    refine sm_iload_n (pc := 20) (n := 1) dX9_classes_20 rfl ?_
    refine sm_imul (pc := 21) dX9_classes_21 ?_
    refine sm_putI (pc := 22) (ci := 9) (n := 12) (ty := tyX9 12) rfl (by decide) rfl rfl (zput (C := RX9) (T := TX9) (N := 63) (ty0 := tyX9) (ty := tyX9 12) inz9 tyX9_ok nmX9 rfl (by decide) wd_1030 rfl rfl dX9_classes_22) ?_
    refine sm_iinc (pc := 25) (n := 1) dX9_classes_25 zc_i_1 ?_
    refine sm_goto (pc := 28) (tgt := 7) dX9_classes_28 (by decide) ?_
    exact hr7
noncomputable def f_X9_classes {d : Nat} : List zV → zH d → zP d → Bool := zfn 7 b_X9_classes
theorem m_X9_classes {d : Nat} : zMet (d := d) X_X9_classes yX9_classes 2 f_X9_classes := zmet_mk (X := X_X9_classes) (by decide) rfl rfl s_X9_classes

abbrev X_X9_beadsOf : zM := (RX9, cX9_beadsOf, 4, (some .int), "beadsOf")
noncomputable def b_X9_beadsOf {d : Nat} (P : zP d) : zK d := (xpI 0 (xist 2 (xpI 0 (xist 3 (xloop (fun r4 => (xild 3 (xpI 6 (xcmp tge (xild 2 (xiret P)) (xild 2 (xpI 1 (xald 0 (xild 1 (xild 3 (xcV 25 3 0 0 f_X9_partOf (xpI 5 (xbin zadd (xild 3 (xbin zsub (xbin zshl (xbin zor (xist 2 (xinc 3 1 r4)))))))))))))))))) 100000)))))
set_option maxRecDepth 100000 in
set_option maxHeartbeats 4000000 in
theorem s_X9_beadsOf {d : Nat} (P : zP d) : zSim X_X9_beadsOf 2 P 0 (b_X9_beadsOf P) := by
  unfold b_X9_beadsOf
  refine sm_iconst (pc := 0) dX9_beadsOf_0 zc_i_0 ?_
  refine sm_istore_n (pc := 1) (n := 2) dX9_beadsOf_1 rfl ?_
  refine sm_iconst (pc := 2) dX9_beadsOf_2 zc_i_0 ?_
  refine sm_istore_n (pc := 3) (n := 3) dX9_beadsOf_3 rfl ?_
  refine sm_loop (fun r4 hr4 => ?_) _
  refine sm_iload_n (pc := 4) (n := 3) dX9_beadsOf_4 rfl ?_
  refine sm_bipush (pc := 5) dX9_beadsOf_5 zc_b_6 ?_
  refine sm_icmp_ge (pc := 7) (tgt := 31) dX9_beadsOf_7 (by decide) ?_ ?_
  · skip
    refine sm_iload_n (pc := 31) (n := 2) dX9_beadsOf_31 rfl ?_
    exact sm_ireturn (pc := 32) dX9_beadsOf_32 rfl
  · skip
    refine sm_iload_n (pc := 10) (n := 2) dX9_beadsOf_10 rfl ?_
    refine sm_iconst (pc := 11) dX9_beadsOf_11 zc_i_1 ?_
    refine sm_aload_n (pc := 12) (n := 0) dX9_beadsOf_12 rfl ?_
    refine sm_iload_n (pc := 13) (n := 1) dX9_beadsOf_13 rfl ?_
    refine sm_iload_n (pc := 14) (n := 3) dX9_beadsOf_14 rfl ?_
    refine sm_cV (pc := 15) (ci := 9) (n := 3) (mc := 0) (ms := 0) rfl m_X9_partOf (zrunV (n := 2) (ci := 9) rfl rfl wd_925 wd_14 wd_922 wd_924 ws_56 (by decide) (by decide) (by decide) dX9_beadsOf_15) ?_
    refine sm_iconst (pc := 18) dX9_beadsOf_18 zc_i_5 ?_
    refine sm_iadd (pc := 19) dX9_beadsOf_19 ?_
    refine sm_iload_n (pc := 20) (n := 3) dX9_beadsOf_20 rfl ?_
    refine sm_isub (pc := 21) dX9_beadsOf_21 ?_
    refine sm_ishl (pc := 22) dX9_beadsOf_22 ?_
    refine sm_ior (pc := 23) dX9_beadsOf_23 ?_
    refine sm_istore_n (pc := 24) (n := 2) dX9_beadsOf_24 rfl ?_
    refine sm_iinc (pc := 25) (n := 3) dX9_beadsOf_25 zc_i_1 ?_
    refine sm_goto (pc := 28) (tgt := 4) dX9_beadsOf_28 (by decide) ?_
    exact hr4
noncomputable def f_X9_beadsOf {d : Nat} : List zV → zH d → zP d → Bool := zfn 4 b_X9_beadsOf
theorem m_X9_beadsOf {d : Nat} : zMet (d := d) X_X9_beadsOf yX9_beadsOf 2 f_X9_beadsOf := zmet_mk (X := X_X9_beadsOf) (by decide) rfl rfl s_X9_beadsOf

abbrev X_X9_charOf : zM := (RX9, cX9_charOf, 9, (some .int), "charOf")
noncomputable def b_X9_charOf {d : Nat} (self : List zV → zH d → zP d → Bool) (P : zP d) : zK d := (xild 3 (xald 0 (xgfR 25 4 (xild 2 (xald1 0 (xcmp Nat.beq (xpI 1 (xiret P)) (xald 0 (xild 2 (xild 3 (xcV 25 3 0 0 f_X9_partOf (xist 4 (xpI 0 (xist 5 (xild 4 (xist 6 (xloop (fun r27 => (xild 6 (xpI 12 (xcmp tge (xild 5 (xiret P)) (xild 1 (xild 6 (xbin zshr (xpI 1 (xbin zand (xjoin (xinc 6 1 r27) (fun j128 => (xif0 t0eq j128 (xild 1 (xild 6 (xild 4 (xbin zsub (xbin zshr (xpI 1 (xbin zand (xpI 1 (xcmp Nat.beq j128 (xild 1 (xild 6 (xild 4 (xbin zsub (xpI 1 (xbin zadd (xbin zshr (xpI 1 (xild 4 (xpI 1 (xbin zsub (xbin zshl (xpI 1 (xbin zsub (xbin zand (xist 7 (xald 0 (xild 1 (xpI 1 (xild 6 (xbin zshl (xpI 4294967295 (xbin zxor (xbin zand (xpI 1 (xild 6 (xild 4 (xbin zsub (xbin zshl (xbin zor (xild 2 (xild 3 (xpI 1 (xbin zadd (xcV 25 4 0 0 self (xist 8 (xild 5 (xild 7 (xcS 1 0 0 f_X9_bits (xpI 2 (xbinN zrem (xjoin (xbin zadd (xist 5 j128)) (fun j125 => (xif0 t0eq (xild 8 j125) (xild 8 (xun zneg j125))))))))))))))))))))))))))))))))))))))))))))))))))))))))))))))))))) 100000))))))))))))))))
set_option maxRecDepth 100000 in
set_option maxHeartbeats 4000000 in
theorem s_X9_charOf {d : Nat} (n : Nat) (self : List zV → zH d → zP d → Bool) (hself : zMet X_X9_charOf yX9_charOf (1 + n) self) (P : zP d) : zSim X_X9_charOf (1 + (n + 1)) P 0 (b_X9_charOf self P) := by
  unfold b_X9_charOf
  refine sm_iload_n (pc := 0) (n := 3) dX9_charOf_0 rfl ?_
  refine sm_aload_n (pc := 1) (n := 0) dX9_charOf_1 rfl ?_
  refine sm_getfieldR (pc := 2) (ci := 9) (n := 4) (C := RX9) (T := TX9) (N := 63) rfl rfl inz9 rfl (by decide) rfl wd_1022 rfl dX9_charOf_2 ?_
  refine sm_iload_n (pc := 5) (n := 2) dX9_charOf_5 rfl ?_
  refine sm_iaload (pc := 6) dX9_charOf_6 ?_
  refine sm_icmp_ne (pc := 7) (tgt := 12) dX9_charOf_7 (by decide) ?_ ?_
  · skip
    refine sm_aload_n (pc := 12) (n := 0) dX9_charOf_12 rfl ?_
    refine sm_iload_n (pc := 13) (n := 2) dX9_charOf_13 rfl ?_
    refine sm_iload_n (pc := 14) (n := 3) dX9_charOf_14 rfl ?_
    refine sm_cV (pc := 15) (ci := 9) (n := 3) (mc := 0) (ms := 0) rfl m_X9_partOf (zrunV (n := 2) (ci := 9) rfl rfl wd_925 wd_14 wd_922 wd_924 ws_56 (by decide) (by omega) (by decide) dX9_charOf_15) ?_
    refine sm_istore (pc := 18) (n := 4) dX9_charOf_18 ?_
    refine sm_iconst (pc := 20) dX9_charOf_20 zc_i_0 ?_
    refine sm_istore (pc := 21) (n := 5) dX9_charOf_21 ?_
    refine sm_iload (pc := 23) (n := 4) dX9_charOf_23 ?_
    refine sm_istore (pc := 25) (n := 6) dX9_charOf_25 ?_
    refine sm_loop (fun r27 hr27 => ?_) _
    refine sm_iload (pc := 27) (n := 6) dX9_charOf_27 ?_
    refine sm_bipush (pc := 29) dX9_charOf_29 zc_b_12 ?_
    refine sm_icmp_ge (pc := 31) (tgt := 134) dX9_charOf_31 (by decide) ?_ ?_
    · skip
      refine sm_iload (pc := 134) (n := 5) dX9_charOf_134 ?_
      exact sm_ireturn (pc := 136) dX9_charOf_136 rfl
    · skip
      refine sm_iload_n (pc := 34) (n := 1) dX9_charOf_34 rfl ?_
      refine sm_iload (pc := 35) (n := 6) dX9_charOf_35 ?_
      refine sm_ishr (pc := 37) dX9_charOf_37 ?_
      refine sm_iconst (pc := 38) dX9_charOf_38 zc_i_1 ?_
      refine sm_iand (pc := 39) dX9_charOf_39 ?_
      refine sm_join (pc := 40) (pc' := 128) ?_ (fun j128 hj128 => ?_)
      · skip
        refine sm_iinc (pc := 128) (n := 6) dX9_charOf_128 zc_i_1 ?_
        refine sm_goto (pc := 131) (tgt := 27) dX9_charOf_131 (by decide) ?_
        exact hr27
      refine sm_if_eq (pc := 40) (tgt := 128) dX9_charOf_40 (by decide) ?_ ?_
      · skip
        exact hj128
      · skip
        refine sm_iload_n (pc := 43) (n := 1) dX9_charOf_43 rfl ?_
        refine sm_iload (pc := 44) (n := 6) dX9_charOf_44 ?_
        refine sm_iload (pc := 46) (n := 4) dX9_charOf_46 ?_
        refine sm_isub (pc := 48) dX9_charOf_48 ?_
        refine sm_ishr (pc := 49) dX9_charOf_49 ?_
        refine sm_iconst (pc := 50) dX9_charOf_50 zc_i_1 ?_
        refine sm_iand (pc := 51) dX9_charOf_51 ?_
        refine sm_iconst (pc := 52) dX9_charOf_52 zc_i_1 ?_
        refine sm_icmp_ne (pc := 53) (tgt := 59) dX9_charOf_53 (by decide) ?_ ?_
        · skip
          refine sm_iload_n (pc := 59) (n := 1) dX9_charOf_59 rfl ?_
          refine sm_iload (pc := 60) (n := 6) dX9_charOf_60 ?_
          refine sm_iload (pc := 62) (n := 4) dX9_charOf_62 ?_
          refine sm_isub (pc := 64) dX9_charOf_64 ?_
          refine sm_iconst (pc := 65) dX9_charOf_65 zc_i_1 ?_
          refine sm_iadd (pc := 66) dX9_charOf_66 ?_
          refine sm_ishr (pc := 67) dX9_charOf_67 ?_
          refine sm_iconst (pc := 68) dX9_charOf_68 zc_i_1 ?_
          refine sm_iload (pc := 69) (n := 4) dX9_charOf_69 ?_
          refine sm_iconst (pc := 71) dX9_charOf_71 zc_i_1 ?_
          refine sm_isub (pc := 72) dX9_charOf_72 ?_
          refine sm_ishl (pc := 73) dX9_charOf_73 ?_
          refine sm_iconst (pc := 74) dX9_charOf_74 zc_i_1 ?_
          refine sm_isub (pc := 75) dX9_charOf_75 ?_
          refine sm_iand (pc := 76) dX9_charOf_76 ?_
          refine sm_istore (pc := 77) (n := 7) dX9_charOf_77 ?_
          refine sm_aload_n (pc := 79) (n := 0) dX9_charOf_79 rfl ?_
          refine sm_iload_n (pc := 80) (n := 1) dX9_charOf_80 rfl ?_
          refine sm_iconst (pc := 81) dX9_charOf_81 zc_i_1 ?_
          refine sm_iload (pc := 82) (n := 6) dX9_charOf_82 ?_
          refine sm_ishl (pc := 84) dX9_charOf_84 ?_
          refine sm_iconst (pc := 85) dX9_charOf_85 zc_i_m1 ?_
          refine sm_ixor (pc := 86) dX9_charOf_86 ?_
          refine sm_iand (pc := 87) dX9_charOf_87 ?_
          refine sm_iconst (pc := 88) dX9_charOf_88 zc_i_1 ?_
          refine sm_iload (pc := 89) (n := 6) dX9_charOf_89 ?_
          refine sm_iload (pc := 91) (n := 4) dX9_charOf_91 ?_
          refine sm_isub (pc := 93) dX9_charOf_93 ?_
          refine sm_ishl (pc := 94) dX9_charOf_94 ?_
          refine sm_ior (pc := 95) dX9_charOf_95 ?_
          refine sm_iload_n (pc := 96) (n := 2) dX9_charOf_96 rfl ?_
          refine sm_iload_n (pc := 97) (n := 3) dX9_charOf_97 rfl ?_
          refine sm_iconst (pc := 98) dX9_charOf_98 zc_i_1 ?_
          refine sm_iadd (pc := 99) dX9_charOf_99 ?_
          refine sm_cV (pc := 100) (ci := 9) (n := 4) (mc := 0) (ms := 0) rfl hself (zrunV (n := 3) (ci := 9) rfl rfl wd_944 wd_14 wd_941 wd_943 ws_59 (by decide) (by omega) (by decide) dX9_charOf_100) ?_
          refine sm_istore (pc := 103) (n := 8) dX9_charOf_103 ?_
          refine sm_iload (pc := 105) (n := 5) dX9_charOf_105 ?_
          refine sm_iload (pc := 107) (n := 7) dX9_charOf_107 ?_
          refine sm_cS (pc := 109) (n := 1) (mc := 0) (ms := 0) m_X9_bits (zrunS (n := 1) wd_947 wd_14 wd_945 wd_946 (by decide) (by omega) (by decide) dX9_charOf_109) ?_
          refine sm_iconst (pc := 112) dX9_charOf_112 zc_i_2 ?_
          refine sm_irem (pc := 113) dX9_charOf_113 ?_
          refine sm_join (pc := 114) (pc' := 125) ?_ (fun j125 hj125 => ?_)
          · skip
            refine sm_iadd (pc := 125) dX9_charOf_125 ?_
            refine sm_istore (pc := 126) (n := 5) dX9_charOf_126 ?_
            exact hj128
          refine sm_if_ne (pc := 114) (tgt := 122) dX9_charOf_114 (by decide) ?_ ?_
          · skip
            refine sm_iload (pc := 122) (n := 8) dX9_charOf_122 ?_
            refine sm_ineg (pc := 124) dX9_charOf_124 ?_
            exact hj125
          · skip
            refine sm_iload (pc := 117) (n := 8) dX9_charOf_117 ?_
            refine sm_goto (pc := 119) (tgt := 125) dX9_charOf_119 (by decide) ?_
            exact hj125
        · skip
          refine sm_goto (pc := 56) (tgt := 128) dX9_charOf_56 (by decide) ?_
          exact hj128
  · skip
    refine sm_iconst (pc := 10) dX9_charOf_10 zc_i_1 ?_
    exact sm_ireturn (pc := 11) dX9_charOf_11 rfl
noncomputable def f_X9_charOf {d : Nat} : List zV → zH d → zP d → Bool := zrec 9 b_X9_charOf 8
theorem m_X9_charOf {d : Nat} : zMet (d := d) X_X9_charOf yX9_charOf 9 f_X9_charOf := zmet_rec (X := X_X9_charOf) (fr := 1) (by decide) rfl rfl (fun n f hf P => s_X9_charOf n f hf P) 8

abbrev X_X9_cores : zM := (RX9, cX9_cores, 5, none, "cores")
noncomputable def b_X9_cores {d : Nat} (P : zP d) : zK d := (xald 0 (xpI 0 (xpfI 25 18 (xpI 0 (xist 1 (xloop (fun r7 => (xild 1 (xald 0 (xgfI 25 2 (xcmp tge (xvret P) (xald 0 (xild 1 (xcV 25 2 0 0 f_X9_beadsOf (xist 2 (xald 0 (xgfR 25 15 (xild 1 (xpI 0 (xast1 0 (fun v => v) (xpI 1 (xist 3 (xloop (fun r30 => (xild 3 (xif0 t0eq (xald 0 (xgfR 25 16 (xild 1 (xild 2 (xast1 0 (fun v => v) (xald 0 (xgfR 25 17 (xild 1 (xpI 4294967295 (xast1 0 (fun v => v) (xpI 0 (xist 4 (xloop (fun r133 => (xild 4 (xild 1 (xcmp tge (xald 0 (xgfR 25 17 (xild 1 (xald1 0 (xpI 4294967295 (xjoin (xinc 1 1 r7) (fun j212 => (xcmp Nat.beq (xald 0 (xgfR 25 17 (xild 1 (xald 0 (xgfI 25 18 (xast1 0 (fun v => v) (xald 0 (xgfR 25 19 (xald 0 (xgfI 25 18 (xild 1 (xast1 0 (fun v => v) (xald 0 (xdup (xgfI 25 18 (xpI 1 (xbin zadd (xpfI 25 18 j212)))))))))))))))))) j212)))))))) (xald 0 (xgfR 25 16 (xild 4 (xald1 0 (xild 2 (xjoin (xinc 4 1 r133) (fun j163 => (xcmp Nat.beq (xald 0 (xgfR 25 17 (xild 1 (xald 0 (xgfR 25 17 (xild 4 (xald1 0 (xast1 0 (fun v => v) j163)))))))) j163)))))))))))) 100000))))))))))))) (xpI 0 (xist 3 (xald 0 (xgfI 25 1 (xist 4 (xloop (fun r42 => (xild 4 (xpI 12 (xcmp tge r30 (xild 2 (xild 4 (xbin zshr (xpI 1 (xbin zand (xjoin (xinc 4 1 r42) (fun j107 => (xif0 t0eq j107 (xild 2 (xild 4 (xald 0 (xgfI 25 1 (xbin zsub (xbin zshr (xpI 1 (xbin zand (xpI 1 (xcmp Nat.beq j107 (xild 2 (xpI 1 (xild 4 (xbin zshl (xpI 4294967295 (xbin zxor (xbin zand (xpI 1 (xild 4 (xald 0 (xgfI 25 1 (xbin zsub (xbin zshl (xbin zor (xist 2 (xald 0 (xgfR 25 15 (xild 1 (xdup2 (xald1 0 (xpI 1 (xbin zadd (xast1 0 (fun v => v) (xpI 1 (xist 3 j107))))))))))))))))))))))))))))))))))))))))))))))) 100000))))))))) 100000))))))))))))))))) 100000))))))
set_option maxRecDepth 100000 in
set_option maxHeartbeats 4000000 in
theorem s_X9_cores {d : Nat} (P : zP d) : zSim X_X9_cores 3 P 0 (b_X9_cores P) := by
  unfold b_X9_cores
  refine sm_aload_n (pc := 0) (n := 0) dX9_cores_0 rfl ?_
  refine sm_iconst (pc := 1) dX9_cores_1 zc_i_0 ?_
  refine sm_putI (pc := 2) (ci := 9) (n := 18) (ty := tyX9 18) rfl (by decide) rfl rfl (zput (C := RX9) (T := TX9) (N := 63) (ty0 := tyX9) (ty := tyX9 18) inz9 tyX9_ok nmX9 rfl (by decide) wd_1036 rfl rfl dX9_cores_2) ?_
  refine sm_iconst (pc := 5) dX9_cores_5 zc_i_0 ?_
  refine sm_istore_n (pc := 6) (n := 1) dX9_cores_6 rfl ?_
  refine sm_loop (fun r7 hr7 => ?_) _
  refine sm_iload_n (pc := 7) (n := 1) dX9_cores_7 rfl ?_
  refine sm_aload_n (pc := 8) (n := 0) dX9_cores_8 rfl ?_
  refine sm_getfieldI (pc := 9) (ci := 9) (n := 2) (C := RX9) (T := TX9) (N := 63) rfl rfl inz9 rfl (by decide) rfl wd_1020 rfl dX9_cores_9 ?_
  refine sm_icmp_ge (pc := 12) (tgt := 218) dX9_cores_12 (by decide) ?_ ?_
  · skip
    exact sm_vreturn (pc := 218) dX9_cores_218 rfl
  · skip
    refine sm_aload_n (pc := 15) (n := 0) dX9_cores_15 rfl ?_
    refine sm_iload_n (pc := 16) (n := 1) dX9_cores_16 rfl ?_
    refine sm_cV (pc := 17) (ci := 9) (n := 2) (mc := 0) (ms := 0) rfl m_X9_beadsOf (zrunV (n := 1) (ci := 9) rfl rfl wd_940 wd_14 wd_937 wd_939 ws_58 (by decide) (by decide) (by decide) dX9_cores_17) ?_
    refine sm_istore_n (pc := 20) (n := 2) dX9_cores_20 rfl ?_
    refine sm_aload_n (pc := 21) (n := 0) dX9_cores_21 rfl ?_
    refine sm_getfieldR (pc := 22) (ci := 9) (n := 15) (C := RX9) (T := TX9) (N := 63) rfl rfl inz9 rfl (by decide) rfl wd_1033 rfl dX9_cores_22 ?_
    refine sm_iload_n (pc := 25) (n := 1) dX9_cores_25 rfl ?_
    refine sm_iconst (pc := 26) dX9_cores_26 zc_i_0 ?_
    refine sm_iastore (pc := 27) dX9_cores_27 ?_
    refine sm_iconst (pc := 28) dX9_cores_28 zc_i_1 ?_
    refine sm_istore_n (pc := 29) (n := 3) dX9_cores_29 rfl ?_
    refine sm_loop (fun r30 hr30 => ?_) _
    refine sm_iload_n (pc := 30) (n := 3) dX9_cores_30 rfl ?_
    refine sm_if_eq (pc := 31) (tgt := 116) dX9_cores_31 (by decide) ?_ ?_
    · skip
      refine sm_aload_n (pc := 116) (n := 0) dX9_cores_116 rfl ?_
      refine sm_getfieldR (pc := 117) (ci := 9) (n := 16) (C := RX9) (T := TX9) (N := 63) rfl rfl inz9 rfl (by decide) rfl wd_1034 rfl dX9_cores_117 ?_
      refine sm_iload_n (pc := 120) (n := 1) dX9_cores_120 rfl ?_
      refine sm_iload_n (pc := 121) (n := 2) dX9_cores_121 rfl ?_
      refine sm_iastore (pc := 122) dX9_cores_122 ?_
      refine sm_aload_n (pc := 123) (n := 0) dX9_cores_123 rfl ?_
      refine sm_getfieldR (pc := 124) (ci := 9) (n := 17) (C := RX9) (T := TX9) (N := 63) rfl rfl inz9 rfl (by decide) rfl wd_1035 rfl dX9_cores_124 ?_
      refine sm_iload_n (pc := 127) (n := 1) dX9_cores_127 rfl ?_
      refine sm_iconst (pc := 128) dX9_cores_128 zc_i_m1 ?_
      refine sm_iastore (pc := 129) dX9_cores_129 ?_
      refine sm_iconst (pc := 130) dX9_cores_130 zc_i_0 ?_
      refine sm_istore (pc := 131) (n := 4) dX9_cores_131 ?_
      refine sm_loop (fun r133 hr133 => ?_) _
      refine sm_iload (pc := 133) (n := 4) dX9_cores_133 ?_
      refine sm_iload_n (pc := 135) (n := 1) dX9_cores_135 rfl ?_
      refine sm_icmp_ge (pc := 136) (tgt := 169) dX9_cores_136 (by decide) ?_ ?_
      · skip
        refine sm_aload_n (pc := 169) (n := 0) dX9_cores_169 rfl ?_
        refine sm_getfieldR (pc := 170) (ci := 9) (n := 17) (C := RX9) (T := TX9) (N := 63) rfl rfl inz9 rfl (by decide) rfl wd_1035 rfl dX9_cores_170 ?_
        refine sm_iload_n (pc := 173) (n := 1) dX9_cores_173 rfl ?_
        refine sm_iaload (pc := 174) dX9_cores_174 ?_
        refine sm_iconst (pc := 175) dX9_cores_175 zc_i_m1 ?_
        refine sm_join (pc := 176) (pc' := 212) ?_ (fun j212 hj212 => ?_)
        · skip
          refine sm_iinc (pc := 212) (n := 1) dX9_cores_212 zc_i_1 ?_
          refine sm_goto (pc := 215) (tgt := 7) dX9_cores_215 (by decide) ?_
          exact hr7
        refine sm_icmp_eq (pc := 176) (tgt := 182) dX9_cores_176 (by decide) ?_ ?_
        · skip
          refine sm_aload_n (pc := 182) (n := 0) dX9_cores_182 rfl ?_
          refine sm_getfieldR (pc := 183) (ci := 9) (n := 17) (C := RX9) (T := TX9) (N := 63) rfl rfl inz9 rfl (by decide) rfl wd_1035 rfl dX9_cores_183 ?_
          refine sm_iload_n (pc := 186) (n := 1) dX9_cores_186 rfl ?_
          refine sm_aload_n (pc := 187) (n := 0) dX9_cores_187 rfl ?_
          refine sm_getfieldI (pc := 188) (ci := 9) (n := 18) (C := RX9) (T := TX9) (N := 63) rfl rfl inz9 rfl (by decide) rfl wd_1036 rfl dX9_cores_188 ?_
          refine sm_iastore (pc := 191) dX9_cores_191 ?_
          refine sm_aload_n (pc := 192) (n := 0) dX9_cores_192 rfl ?_
          refine sm_getfieldR (pc := 193) (ci := 9) (n := 19) (C := RX9) (T := TX9) (N := 63) rfl rfl inz9 rfl (by decide) rfl wd_1037 rfl dX9_cores_193 ?_
          refine sm_aload_n (pc := 196) (n := 0) dX9_cores_196 rfl ?_
          refine sm_getfieldI (pc := 197) (ci := 9) (n := 18) (C := RX9) (T := TX9) (N := 63) rfl rfl inz9 rfl (by decide) rfl wd_1036 rfl dX9_cores_197 ?_
          refine sm_iload_n (pc := 200) (n := 1) dX9_cores_200 rfl ?_
          refine sm_iastore (pc := 201) dX9_cores_201 ?_
          refine sm_aload_n (pc := 202) (n := 0) dX9_cores_202 rfl ?_
          refine sm_dup (pc := 203) dX9_cores_203 ?_
          refine sm_getfieldI (pc := 204) (ci := 9) (n := 18) (C := RX9) (T := TX9) (N := 63) rfl rfl inz9 rfl (by decide) rfl wd_1036 rfl dX9_cores_204 ?_
          refine sm_iconst (pc := 207) dX9_cores_207 zc_i_1 ?_
          refine sm_iadd (pc := 208) dX9_cores_208 ?_
          refine sm_putI (pc := 209) (ci := 9) (n := 18) (ty := tyX9 18) rfl (by decide) rfl rfl (zput (C := RX9) (T := TX9) (N := 63) (ty0 := tyX9) (ty := tyX9 18) inz9 tyX9_ok nmX9 rfl (by decide) wd_1036 rfl rfl dX9_cores_209) ?_
          exact hj212
        · skip
          refine sm_goto (pc := 179) (tgt := 212) dX9_cores_179 (by decide) ?_
          exact hj212
      · skip
        refine sm_aload_n (pc := 139) (n := 0) dX9_cores_139 rfl ?_
        refine sm_getfieldR (pc := 140) (ci := 9) (n := 16) (C := RX9) (T := TX9) (N := 63) rfl rfl inz9 rfl (by decide) rfl wd_1034 rfl dX9_cores_140 ?_
        refine sm_iload (pc := 143) (n := 4) dX9_cores_143 ?_
        refine sm_iaload (pc := 145) dX9_cores_145 ?_
        refine sm_iload_n (pc := 146) (n := 2) dX9_cores_146 rfl ?_
        refine sm_join (pc := 147) (pc' := 163) ?_ (fun j163 hj163 => ?_)
        · skip
          refine sm_iinc (pc := 163) (n := 4) dX9_cores_163 zc_i_1 ?_
          refine sm_goto (pc := 166) (tgt := 133) dX9_cores_166 (by decide) ?_
          exact hr133
        refine sm_icmp_ne (pc := 147) (tgt := 163) dX9_cores_147 (by decide) ?_ ?_
        · skip
          exact hj163
        · skip
          refine sm_aload_n (pc := 150) (n := 0) dX9_cores_150 rfl ?_
          refine sm_getfieldR (pc := 151) (ci := 9) (n := 17) (C := RX9) (T := TX9) (N := 63) rfl rfl inz9 rfl (by decide) rfl wd_1035 rfl dX9_cores_151 ?_
          refine sm_iload_n (pc := 154) (n := 1) dX9_cores_154 rfl ?_
          refine sm_aload_n (pc := 155) (n := 0) dX9_cores_155 rfl ?_
          refine sm_getfieldR (pc := 156) (ci := 9) (n := 17) (C := RX9) (T := TX9) (N := 63) rfl rfl inz9 rfl (by decide) rfl wd_1035 rfl dX9_cores_156 ?_
          refine sm_iload (pc := 159) (n := 4) dX9_cores_159 ?_
          refine sm_iaload (pc := 161) dX9_cores_161 ?_
          refine sm_iastore (pc := 162) dX9_cores_162 ?_
          exact hj163
    · skip
      refine sm_iconst (pc := 34) dX9_cores_34 zc_i_0 ?_
      refine sm_istore_n (pc := 35) (n := 3) dX9_cores_35 rfl ?_
      refine sm_aload_n (pc := 36) (n := 0) dX9_cores_36 rfl ?_
      refine sm_getfieldI (pc := 37) (ci := 9) (n := 1) (C := RX9) (T := TX9) (N := 63) rfl rfl inz9 rfl (by decide) rfl wd_1019 rfl dX9_cores_37 ?_
      refine sm_istore (pc := 40) (n := 4) dX9_cores_40 ?_
      refine sm_loop (fun r42 hr42 => ?_) _
      refine sm_iload (pc := 42) (n := 4) dX9_cores_42 ?_
      refine sm_bipush (pc := 44) dX9_cores_44 zc_b_12 ?_
      refine sm_icmp_ge (pc := 46) (tgt := 113) dX9_cores_46 (by decide) ?_ ?_
      · skip
        refine sm_goto (pc := 113) (tgt := 30) dX9_cores_113 (by decide) ?_
        exact hr30
      · skip
        refine sm_iload_n (pc := 49) (n := 2) dX9_cores_49 rfl ?_
        refine sm_iload (pc := 50) (n := 4) dX9_cores_50 ?_
        refine sm_ishr (pc := 52) dX9_cores_52 ?_
        refine sm_iconst (pc := 53) dX9_cores_53 zc_i_1 ?_
        refine sm_iand (pc := 54) dX9_cores_54 ?_
        refine sm_join (pc := 55) (pc' := 107) ?_ (fun j107 hj107 => ?_)
        · skip
          refine sm_iinc (pc := 107) (n := 4) dX9_cores_107 zc_i_1 ?_
          refine sm_goto (pc := 110) (tgt := 42) dX9_cores_110 (by decide) ?_
          exact hr42
        refine sm_if_eq (pc := 55) (tgt := 107) dX9_cores_55 (by decide) ?_ ?_
        · skip
          exact hj107
        · skip
          refine sm_iload_n (pc := 58) (n := 2) dX9_cores_58 rfl ?_
          refine sm_iload (pc := 59) (n := 4) dX9_cores_59 ?_
          refine sm_aload_n (pc := 61) (n := 0) dX9_cores_61 rfl ?_
          refine sm_getfieldI (pc := 62) (ci := 9) (n := 1) (C := RX9) (T := TX9) (N := 63) rfl rfl inz9 rfl (by decide) rfl wd_1019 rfl dX9_cores_62 ?_
          refine sm_isub (pc := 65) dX9_cores_65 ?_
          refine sm_ishr (pc := 66) dX9_cores_66 ?_
          refine sm_iconst (pc := 67) dX9_cores_67 zc_i_1 ?_
          refine sm_iand (pc := 68) dX9_cores_68 ?_
          refine sm_iconst (pc := 69) dX9_cores_69 zc_i_1 ?_
          refine sm_icmp_ne (pc := 70) (tgt := 76) dX9_cores_70 (by decide) ?_ ?_
          · skip
            refine sm_iload_n (pc := 76) (n := 2) dX9_cores_76 rfl ?_
            refine sm_iconst (pc := 77) dX9_cores_77 zc_i_1 ?_
            refine sm_iload (pc := 78) (n := 4) dX9_cores_78 ?_
            refine sm_ishl (pc := 80) dX9_cores_80 ?_
            refine sm_iconst (pc := 81) dX9_cores_81 zc_i_m1 ?_
            refine sm_ixor (pc := 82) dX9_cores_82 ?_
            refine sm_iand (pc := 83) dX9_cores_83 ?_
            refine sm_iconst (pc := 84) dX9_cores_84 zc_i_1 ?_
            refine sm_iload (pc := 85) (n := 4) dX9_cores_85 ?_
            refine sm_aload_n (pc := 87) (n := 0) dX9_cores_87 rfl ?_
            refine sm_getfieldI (pc := 88) (ci := 9) (n := 1) (C := RX9) (T := TX9) (N := 63) rfl rfl inz9 rfl (by decide) rfl wd_1019 rfl dX9_cores_88 ?_
            refine sm_isub (pc := 91) dX9_cores_91 ?_
            refine sm_ishl (pc := 92) dX9_cores_92 ?_
            refine sm_ior (pc := 93) dX9_cores_93 ?_
            refine sm_istore_n (pc := 94) (n := 2) dX9_cores_94 rfl ?_
            refine sm_aload_n (pc := 95) (n := 0) dX9_cores_95 rfl ?_
            refine sm_getfieldR (pc := 96) (ci := 9) (n := 15) (C := RX9) (T := TX9) (N := 63) rfl rfl inz9 rfl (by decide) rfl wd_1033 rfl dX9_cores_96 ?_
            refine sm_iload_n (pc := 99) (n := 1) dX9_cores_99 rfl ?_
            refine sm_dup2 (pc := 100) dX9_cores_100 ?_
            refine sm_iaload (pc := 101) dX9_cores_101 ?_
            refine sm_iconst (pc := 102) dX9_cores_102 zc_i_1 ?_
            refine sm_iadd (pc := 103) dX9_cores_103 ?_
            refine sm_iastore (pc := 104) dX9_cores_104 ?_
            refine sm_iconst (pc := 105) dX9_cores_105 zc_i_1 ?_
            refine sm_istore_n (pc := 106) (n := 3) dX9_cores_106 rfl ?_
            exact hj107
          · skip
            refine sm_goto (pc := 73) (tgt := 107) dX9_cores_73 (by decide) ?_
            exact hj107
noncomputable def f_X9_cores {d : Nat} : List zV → zH d → zP d → Bool := zfn 5 b_X9_cores
theorem m_X9_cores {d : Nat} : zMet (d := d) X_X9_cores yX9_cores 3 f_X9_cores := zmet_mk (X := X_X9_cores) (by decide) rfl rfl s_X9_cores

abbrev X_X9_rowOf : zM := (RX9, cX9_rowOf, 4, (some .int), "rowOf")
noncomputable def b_X9_rowOf {d : Nat} (P : zP d) : zK d := (xild 1 (xist 2 (xpI 0 (xist 3 (xloop (fun r4 => (xild 2 (xald 0 (xald 0 (xgfI 25 25 (xild 3 (xcV 25 3 0 0 f_X9_partOf (xcmp tge (xild 2 (xald 0 (xald 0 (xgfI 25 25 (xild 3 (xcV 25 3 0 0 f_X9_partOf (xbin zsub (xist 2 (xinc 3 1 r4))))))))) (xild 3 (xiret P)))))))))) 100000)))))
set_option maxRecDepth 100000 in
set_option maxHeartbeats 4000000 in
theorem s_X9_rowOf {d : Nat} (P : zP d) : zSim X_X9_rowOf 2 P 0 (b_X9_rowOf P) := by
  unfold b_X9_rowOf
  refine sm_iload_n (pc := 0) (n := 1) dX9_rowOf_0 rfl ?_
  refine sm_istore_n (pc := 1) (n := 2) dX9_rowOf_1 rfl ?_
  refine sm_iconst (pc := 2) dX9_rowOf_2 zc_i_0 ?_
  refine sm_istore_n (pc := 3) (n := 3) dX9_rowOf_3 rfl ?_
  refine sm_loop (fun r4 hr4 => ?_) _
  refine sm_iload_n (pc := 4) (n := 2) dX9_rowOf_4 rfl ?_
  refine sm_aload_n (pc := 5) (n := 0) dX9_rowOf_5 rfl ?_
  refine sm_aload_n (pc := 6) (n := 0) dX9_rowOf_6 rfl ?_
  refine sm_getfieldI (pc := 7) (ci := 9) (n := 25) (C := RX9) (T := TX9) (N := 63) rfl rfl inz9 rfl (by decide) rfl wd_1043 rfl dX9_rowOf_7 ?_
  refine sm_iload_n (pc := 10) (n := 3) dX9_rowOf_10 rfl ?_
  refine sm_cV (pc := 11) (ci := 9) (n := 3) (mc := 0) (ms := 0) rfl m_X9_partOf (zrunV (n := 2) (ci := 9) rfl rfl wd_925 wd_14 wd_922 wd_924 ws_56 (by decide) (by decide) (by decide) dX9_rowOf_11) ?_
  refine sm_icmp_lt (pc := 14) (tgt := 35) dX9_rowOf_14 (by decide) ?_ ?_
  · skip
    refine sm_iload_n (pc := 35) (n := 3) dX9_rowOf_35 rfl ?_
    exact sm_ireturn (pc := 36) dX9_rowOf_36 rfl
  · skip
    refine sm_iload_n (pc := 17) (n := 2) dX9_rowOf_17 rfl ?_
    refine sm_aload_n (pc := 18) (n := 0) dX9_rowOf_18 rfl ?_
    refine sm_aload_n (pc := 19) (n := 0) dX9_rowOf_19 rfl ?_
    refine sm_getfieldI (pc := 20) (ci := 9) (n := 25) (C := RX9) (T := TX9) (N := 63) rfl rfl inz9 rfl (by decide) rfl wd_1043 rfl dX9_rowOf_20 ?_
    refine sm_iload_n (pc := 23) (n := 3) dX9_rowOf_23 rfl ?_
    refine sm_cV (pc := 24) (ci := 9) (n := 3) (mc := 0) (ms := 0) rfl m_X9_partOf (zrunV (n := 2) (ci := 9) rfl rfl wd_925 wd_14 wd_922 wd_924 ws_56 (by decide) (by decide) (by decide) dX9_rowOf_24) ?_
    refine sm_isub (pc := 27) dX9_rowOf_27 ?_
    refine sm_istore_n (pc := 28) (n := 2) dX9_rowOf_28 rfl ?_
    refine sm_iinc (pc := 29) (n := 3) dX9_rowOf_29 zc_i_1 ?_
    refine sm_goto (pc := 32) (tgt := 4) dX9_rowOf_32 (by decide) ?_
    exact hr4
noncomputable def f_X9_rowOf {d : Nat} : List zV → zH d → zP d → Bool := zfn 4 b_X9_rowOf
theorem m_X9_rowOf {d : Nat} : zMet (d := d) X_X9_rowOf yX9_rowOf 2 f_X9_rowOf := zmet_mk (X := X_X9_rowOf) (by decide) rfl rfl s_X9_rowOf

abbrev X_X9_cellAt : zM := (RX9, cX9_cellAt, 5, (some .int), "cellAt")
noncomputable def b_X9_cellAt {d : Nat} (P : zP d) : zK d := (xild 2 (xist 3 (xpI 0 (xist 4 (xloop (fun r5 => (xild 4 (xild 1 (xcmp tge (xild 3 (xiret P)) (xild 3 (xald 0 (xald 0 (xgfI 25 25 (xild 4 (xcV 25 3 0 0 f_X9_partOf (xbin zadd (xist 3 (xinc 4 1 r5))))))))))))) 100000)))))
set_option maxRecDepth 100000 in
set_option maxHeartbeats 4000000 in
theorem s_X9_cellAt {d : Nat} (P : zP d) : zSim X_X9_cellAt 2 P 0 (b_X9_cellAt P) := by
  unfold b_X9_cellAt
  refine sm_iload_n (pc := 0) (n := 2) dX9_cellAt_0 rfl ?_
  refine sm_istore_n (pc := 1) (n := 3) dX9_cellAt_1 rfl ?_
  refine sm_iconst (pc := 2) dX9_cellAt_2 zc_i_0 ?_
  refine sm_istore (pc := 3) (n := 4) dX9_cellAt_3 ?_
  refine sm_loop (fun r5 hr5 => ?_) _
  refine sm_iload (pc := 5) (n := 4) dX9_cellAt_5 ?_
  refine sm_iload_n (pc := 7) (n := 1) dX9_cellAt_7 rfl ?_
  refine sm_icmp_ge (pc := 8) (tgt := 30) dX9_cellAt_8 (by decide) ?_ ?_
  · skip
    refine sm_iload_n (pc := 30) (n := 3) dX9_cellAt_30 rfl ?_
    exact sm_ireturn (pc := 31) dX9_cellAt_31 rfl
  · skip
    refine sm_iload_n (pc := 11) (n := 3) dX9_cellAt_11 rfl ?_
    refine sm_aload_n (pc := 12) (n := 0) dX9_cellAt_12 rfl ?_
    refine sm_aload_n (pc := 13) (n := 0) dX9_cellAt_13 rfl ?_
    refine sm_getfieldI (pc := 14) (ci := 9) (n := 25) (C := RX9) (T := TX9) (N := 63) rfl rfl inz9 rfl (by decide) rfl wd_1043 rfl dX9_cellAt_14 ?_
    refine sm_iload (pc := 17) (n := 4) dX9_cellAt_17 ?_
    refine sm_cV (pc := 19) (ci := 9) (n := 3) (mc := 0) (ms := 0) rfl m_X9_partOf (zrunV (n := 2) (ci := 9) rfl rfl wd_925 wd_14 wd_922 wd_924 ws_56 (by decide) (by decide) (by decide) dX9_cellAt_19) ?_
    refine sm_iadd (pc := 22) dX9_cellAt_22 ?_
    refine sm_istore_n (pc := 23) (n := 3) dX9_cellAt_23 rfl ?_
    refine sm_iinc (pc := 24) (n := 4) dX9_cellAt_24 zc_i_1 ?_
    refine sm_goto (pc := 27) (tgt := 5) dX9_cellAt_27 (by decide) ?_
    exact hr5
noncomputable def f_X9_cellAt {d : Nat} : List zV → zH d → zP d → Bool := zfn 5 b_X9_cellAt
theorem m_X9_cellAt {d : Nat} : zMet (d := d) X_X9_cellAt yX9_cellAt 2 f_X9_cellAt := zmet_mk (X := X_X9_cellAt) (by decide) rfl rfl s_X9_cellAt

abbrev X_X9_fills : zM := (RX9, cX9_fills, 6, none, "fills")
noncomputable def b_X9_fills {d : Nat} (self : List zV → zH d → zP d → Bool) (P : zP d) : zK d := (xild 1 (xald 0 (xgfI 25 0 (xcmp Nat.beq (xpI 0 (xist 3 (xloop (fun r10 => (xild 3 (xald 0 (xgfI 25 0 (xcmp tge (xald 0 (xdup (xgfI 25 23 (xpI 1 (xbin zadd (xpfI 25 23 (xvret P))))))) (xald 0 (xgfR 25 22 (xpI 6 (xald 0 (xgfI 25 23 (xbin zmul (xild 3 (xbin zadd (xald 0 (xgfR 25 24 (xild 3 (xald1 0 (xast1 0 (fun v => v) (xinc 3 1 r10))))))))))))))))))) 100000))) (xald 0 (xild 1 (xcV 25 2 0 0 f_X9_rowOf (xist 3 (xild 1 (xald 0 (xild 3 (xpI 0 (xcV 25 3 0 0 f_X9_cellAt (xbin zsub (xist 4 (xpI 1 (xist 5 (xloop (fun r74 => (xild 5 (xald 0 (xgfI 25 0 (xcmp tle (xild 2 (xild 5 (xbin zshr (xpI 1 (xbin zand (xpI 1 (xjoin (xinc 5 1 r74) (fun j161 => (xcmp Nat.beq j161 (xild 4 (xjoin (xild 3 (xjoin (xald 0 (xgfR 25 24 (xild 1 (xild 5 (xast1 0 (fun v => v) (xald 0 (xild 1 (xpI 1 (xbin zadd (xild 2 (xpI 1 (xild 5 (xbin zshl (xbin zor (xcV 25 3 0 0 self j161))))))))))))))) (fun j140 => (xif0 t0le j140 (xald 0 (xgfR 25 24 (xald 0 (xild 3 (xpI 1 (xbin zsub (xild 4 (xcV 25 3 0 0 f_X9_cellAt (xald1 0 (xild 5 (xcmp tle j140 j161))))))))))))))) (fun j114 => (xif0 t0le j114 (xald 0 (xgfR 25 24 (xild 1 (xpI 1 (xbin zsub (xald1 0 (xild 5 (xcmp tle j114 j161))))))))))))))))))))) (xvret P)))))) 100000))))))))))))))))))
set_option maxRecDepth 100000 in
set_option maxHeartbeats 4000000 in
theorem s_X9_fills {d : Nat} (n : Nat) (self : List zV → zH d → zP d → Bool) (hself : zMet X_X9_fills yX9_fills (2 + n) self) (P : zP d) : zSim X_X9_fills (2 + (n + 1)) P 0 (b_X9_fills self P) := by
  unfold b_X9_fills
  refine sm_iload_n (pc := 0) (n := 1) dX9_fills_0 rfl ?_
  refine sm_aload_n (pc := 1) (n := 0) dX9_fills_1 rfl ?_
  refine sm_getfieldI (pc := 2) (ci := 9) (n := 0) (C := RX9) (T := TX9) (N := 63) rfl rfl inz9 rfl (by decide) rfl wd_1018 rfl dX9_fills_2 ?_
  refine sm_icmp_ne (pc := 5) (tgt := 55) dX9_fills_5 (by decide) ?_ ?_
  · skip
    refine sm_aload_n (pc := 55) (n := 0) dX9_fills_55 rfl ?_
    refine sm_iload_n (pc := 56) (n := 1) dX9_fills_56 rfl ?_
    refine sm_cV (pc := 57) (ci := 9) (n := 2) (mc := 0) (ms := 0) rfl m_X9_rowOf (zrunV (n := 1) (ci := 9) rfl rfl wd_955 wd_14 wd_952 wd_954 ws_61 (by decide) (by omega) (by decide) dX9_fills_57) ?_
    refine sm_istore_n (pc := 60) (n := 3) dX9_fills_60 rfl ?_
    refine sm_iload_n (pc := 61) (n := 1) dX9_fills_61 rfl ?_
    refine sm_aload_n (pc := 62) (n := 0) dX9_fills_62 rfl ?_
    refine sm_iload_n (pc := 63) (n := 3) dX9_fills_63 rfl ?_
    refine sm_iconst (pc := 64) dX9_fills_64 zc_i_0 ?_
    refine sm_cV (pc := 65) (ci := 9) (n := 3) (mc := 0) (ms := 0) rfl m_X9_cellAt (zrunV (n := 2) (ci := 9) rfl rfl wd_959 wd_14 wd_956 wd_958 ws_62 (by decide) (by omega) (by decide) dX9_fills_65) ?_
    refine sm_isub (pc := 68) dX9_fills_68 ?_
    refine sm_istore (pc := 69) (n := 4) dX9_fills_69 ?_
    refine sm_iconst (pc := 71) dX9_fills_71 zc_i_1 ?_
    refine sm_istore (pc := 72) (n := 5) dX9_fills_72 ?_
    refine sm_loop (fun r74 hr74 => ?_) _
    refine sm_iload (pc := 74) (n := 5) dX9_fills_74 ?_
    refine sm_aload_n (pc := 76) (n := 0) dX9_fills_76 rfl ?_
    refine sm_getfieldI (pc := 77) (ci := 9) (n := 0) (C := RX9) (T := TX9) (N := 63) rfl rfl inz9 rfl (by decide) rfl wd_1018 rfl dX9_fills_77 ?_
    refine sm_icmp_gt (pc := 80) (tgt := 167) dX9_fills_80 (by decide) ?_ ?_
    · skip
      exact sm_vreturn (pc := 167) dX9_fills_167 rfl
    · skip
      refine sm_iload_n (pc := 83) (n := 2) dX9_fills_83 rfl ?_
      refine sm_iload (pc := 84) (n := 5) dX9_fills_84 ?_
      refine sm_ishr (pc := 86) dX9_fills_86 ?_
      refine sm_iconst (pc := 87) dX9_fills_87 zc_i_1 ?_
      refine sm_iand (pc := 88) dX9_fills_88 ?_
      refine sm_iconst (pc := 89) dX9_fills_89 zc_i_1 ?_
      refine sm_join (pc := 90) (pc' := 161) ?_ (fun j161 hj161 => ?_)
      · skip
        refine sm_iinc (pc := 161) (n := 5) dX9_fills_161 zc_i_1 ?_
        refine sm_goto (pc := 164) (tgt := 74) dX9_fills_164 (by decide) ?_
        exact hr74
      refine sm_icmp_ne (pc := 90) (tgt := 96) dX9_fills_90 (by decide) ?_ ?_
      · skip
        refine sm_iload (pc := 96) (n := 4) dX9_fills_96 ?_
        refine sm_join (pc := 98) (pc' := 114) ?_ (fun j114 hj114 => ?_)
        · skip
          refine sm_iload_n (pc := 114) (n := 3) dX9_fills_114 rfl ?_
          refine sm_join (pc := 115) (pc' := 140) ?_ (fun j140 hj140 => ?_)
          · skip
            refine sm_aload_n (pc := 140) (n := 0) dX9_fills_140 rfl ?_
            refine sm_getfieldR (pc := 141) (ci := 9) (n := 24) (C := RX9) (T := TX9) (N := 63) rfl rfl inz9 rfl (by decide) rfl wd_1042 rfl dX9_fills_141 ?_
            refine sm_iload_n (pc := 144) (n := 1) dX9_fills_144 rfl ?_
            refine sm_iload (pc := 145) (n := 5) dX9_fills_145 ?_
            refine sm_iastore (pc := 147) dX9_fills_147 ?_
            refine sm_aload_n (pc := 148) (n := 0) dX9_fills_148 rfl ?_
            refine sm_iload_n (pc := 149) (n := 1) dX9_fills_149 rfl ?_
            refine sm_iconst (pc := 150) dX9_fills_150 zc_i_1 ?_
            refine sm_iadd (pc := 151) dX9_fills_151 ?_
            refine sm_iload_n (pc := 152) (n := 2) dX9_fills_152 rfl ?_
            refine sm_iconst (pc := 153) dX9_fills_153 zc_i_1 ?_
            refine sm_iload (pc := 154) (n := 5) dX9_fills_154 ?_
            refine sm_ishl (pc := 156) dX9_fills_156 ?_
            refine sm_ior (pc := 157) dX9_fills_157 ?_
            refine sm_cV (pc := 158) (ci := 9) (n := 3) (mc := 0) (ms := 0) rfl hself (zrunV (n := 2) (ci := 9) rfl rfl wd_951 wd_14 wd_948 wd_950 ws_60 (by decide) (by omega) (by decide) dX9_fills_158) ?_
            exact hj161
          refine sm_if_le (pc := 115) (tgt := 140) dX9_fills_115 (by decide) ?_ ?_
          · skip
            exact hj140
          · skip
            refine sm_aload_n (pc := 118) (n := 0) dX9_fills_118 rfl ?_
            refine sm_getfieldR (pc := 119) (ci := 9) (n := 24) (C := RX9) (T := TX9) (N := 63) rfl rfl inz9 rfl (by decide) rfl wd_1042 rfl dX9_fills_119 ?_
            refine sm_aload_n (pc := 122) (n := 0) dX9_fills_122 rfl ?_
            refine sm_iload_n (pc := 123) (n := 3) dX9_fills_123 rfl ?_
            refine sm_iconst (pc := 124) dX9_fills_124 zc_i_1 ?_
            refine sm_isub (pc := 125) dX9_fills_125 ?_
            refine sm_iload (pc := 126) (n := 4) dX9_fills_126 ?_
            refine sm_cV (pc := 128) (ci := 9) (n := 3) (mc := 0) (ms := 0) rfl m_X9_cellAt (zrunV (n := 2) (ci := 9) rfl rfl wd_959 wd_14 wd_956 wd_958 ws_62 (by decide) (by omega) (by decide) dX9_fills_128) ?_
            refine sm_iaload (pc := 131) dX9_fills_131 ?_
            refine sm_iload (pc := 132) (n := 5) dX9_fills_132 ?_
            refine sm_icmp_le (pc := 134) (tgt := 140) dX9_fills_134 (by decide) ?_ ?_
            · skip
              exact hj140
            · skip
              refine sm_goto (pc := 137) (tgt := 161) dX9_fills_137 (by decide) ?_
              exact hj161
        refine sm_if_le (pc := 98) (tgt := 114) dX9_fills_98 (by decide) ?_ ?_
        · skip
          exact hj114
        · skip
          refine sm_aload_n (pc := 101) (n := 0) dX9_fills_101 rfl ?_
          refine sm_getfieldR (pc := 102) (ci := 9) (n := 24) (C := RX9) (T := TX9) (N := 63) rfl rfl inz9 rfl (by decide) rfl wd_1042 rfl dX9_fills_102 ?_
          refine sm_iload_n (pc := 105) (n := 1) dX9_fills_105 rfl ?_
          refine sm_iconst (pc := 106) dX9_fills_106 zc_i_1 ?_
          refine sm_isub (pc := 107) dX9_fills_107 ?_
          refine sm_iaload (pc := 108) dX9_fills_108 ?_
          refine sm_iload (pc := 109) (n := 5) dX9_fills_109 ?_
          refine sm_icmp_gt (pc := 111) (tgt := 161) dX9_fills_111 (by decide) ?_ ?_
          · skip
            exact hj161
          · skip
            exact hj114
      · skip
        refine sm_goto (pc := 93) (tgt := 161) dX9_fills_93 (by decide) ?_
        exact hj161
  · skip
    refine sm_iconst (pc := 8) dX9_fills_8 zc_i_0 ?_
    refine sm_istore_n (pc := 9) (n := 3) dX9_fills_9 rfl ?_
    refine sm_loop (fun r10 hr10 => ?_) _
    refine sm_iload_n (pc := 10) (n := 3) dX9_fills_10 rfl ?_
    refine sm_aload_n (pc := 11) (n := 0) dX9_fills_11 rfl ?_
    refine sm_getfieldI (pc := 12) (ci := 9) (n := 0) (C := RX9) (T := TX9) (N := 63) rfl rfl inz9 rfl (by decide) rfl wd_1018 rfl dX9_fills_12 ?_
    refine sm_icmp_ge (pc := 15) (tgt := 44) dX9_fills_15 (by decide) ?_ ?_
    · skip
      refine sm_aload_n (pc := 44) (n := 0) dX9_fills_44 rfl ?_
      refine sm_dup (pc := 45) dX9_fills_45 ?_
      refine sm_getfieldI (pc := 46) (ci := 9) (n := 23) (C := RX9) (T := TX9) (N := 63) rfl rfl inz9 rfl (by decide) rfl wd_1041 rfl dX9_fills_46 ?_
      refine sm_iconst (pc := 49) dX9_fills_49 zc_i_1 ?_
      refine sm_iadd (pc := 50) dX9_fills_50 ?_
      refine sm_putI (pc := 51) (ci := 9) (n := 23) (ty := tyX9 23) rfl (by decide) rfl rfl (zput (C := RX9) (T := TX9) (N := 63) (ty0 := tyX9) (ty := tyX9 23) inz9 tyX9_ok nmX9 rfl (by decide) wd_1041 rfl rfl dX9_fills_51) ?_
      exact sm_vreturn (pc := 54) dX9_fills_54 rfl
    · skip
      refine sm_aload_n (pc := 18) (n := 0) dX9_fills_18 rfl ?_
      refine sm_getfieldR (pc := 19) (ci := 9) (n := 22) (C := RX9) (T := TX9) (N := 63) rfl rfl inz9 rfl (by decide) rfl wd_1040 rfl dX9_fills_19 ?_
      refine sm_bipush (pc := 22) dX9_fills_22 zc_b_6 ?_
      refine sm_aload_n (pc := 24) (n := 0) dX9_fills_24 rfl ?_
      refine sm_getfieldI (pc := 25) (ci := 9) (n := 23) (C := RX9) (T := TX9) (N := 63) rfl rfl inz9 rfl (by decide) rfl wd_1041 rfl dX9_fills_25 ?_
      refine sm_imul (pc := 28) dX9_fills_28 ?_
      refine sm_iload_n (pc := 29) (n := 3) dX9_fills_29 rfl ?_
      refine sm_iadd (pc := 30) dX9_fills_30 ?_
      refine sm_aload_n (pc := 31) (n := 0) dX9_fills_31 rfl ?_
      refine sm_getfieldR (pc := 32) (ci := 9) (n := 24) (C := RX9) (T := TX9) (N := 63) rfl rfl inz9 rfl (by decide) rfl wd_1042 rfl dX9_fills_32 ?_
      refine sm_iload_n (pc := 35) (n := 3) dX9_fills_35 rfl ?_
      refine sm_iaload (pc := 36) dX9_fills_36 ?_
      refine sm_iastore (pc := 37) dX9_fills_37 ?_
      refine sm_iinc (pc := 38) (n := 3) dX9_fills_38 zc_i_1 ?_
      refine sm_goto (pc := 41) (tgt := 10) dX9_fills_41 (by decide) ?_
      exact hr10
noncomputable def f_X9_fills {d : Nat} : List zV → zH d → zP d → Bool := zrec 6 b_X9_fills 8
theorem m_X9_fills {d : Nat} : zMet (d := d) X_X9_fills yX9_fills 10 f_X9_fills := zmet_rec (X := X_X9_fills) (fr := 2) (by decide) rfl rfl (fun n f hf P => s_X9_fills n f hf P) 8

abbrev X_X9_placeNow : zM := (RX9, cX9_placeNow, 3, (some .int), "placeNow")
noncomputable def b_X9_placeNow {d : Nat} (P : zP d) : zK d := (xpI 0 (xist 1 (xald 0 (xgfI 25 0 (xist 2 (xloop (fun r7 => (xild 2 (xif0 t0le (xald 0 (xgfR 25 26 (xild 1 (xald1 0 (xjoin (xald 0 (xgfR 25 26 (xild 1 (xald1 0 (xpI 1 (xbin zsub (xiret P))))))) (fun j68 => (xif0 t0eq (xald 0 (xgfR 25 27 (xald 0 (xgfI 25 28 (xild 1 (xast1 0 (fun v => v) (xald 0 (xdup (xgfI 25 28 (xpI 1 (xbin zadd (xpfI 25 28 (xald 0 (xgfR 25 26 (xild 1 (xald 0 (xgfI 25 28 (xast1 0 (fun v => v) j68)))))))))))))))))) j68))))))) (xpI 6 (xild 1 (xbin zmul (xald 0 (xgfR 25 32 (xild 2 (xald1 0 (xbin zadd (xist 1 (xinc 2 4294967295 r7))))))))))))) 100000))))))
set_option maxRecDepth 100000 in
set_option maxHeartbeats 4000000 in
theorem s_X9_placeNow {d : Nat} (P : zP d) : zSim X_X9_placeNow 1 P 0 (b_X9_placeNow P) := by
  unfold b_X9_placeNow
  refine sm_iconst (pc := 0) dX9_placeNow_0 zc_i_0 ?_
  refine sm_istore_n (pc := 1) (n := 1) dX9_placeNow_1 rfl ?_
  refine sm_aload_n (pc := 2) (n := 0) dX9_placeNow_2 rfl ?_
  refine sm_getfieldI (pc := 3) (ci := 9) (n := 0) (C := RX9) (T := TX9) (N := 63) rfl rfl inz9 rfl (by decide) rfl wd_1018 rfl dX9_placeNow_3 ?_
  refine sm_istore_n (pc := 6) (n := 2) dX9_placeNow_6 rfl ?_
  refine sm_loop (fun r7 hr7 => ?_) _
  refine sm_iload_n (pc := 7) (n := 2) dX9_placeNow_7 rfl ?_
  refine sm_if_le (pc := 8) (tgt := 29) dX9_placeNow_8 (by decide) ?_ ?_
  · skip
    refine sm_aload_n (pc := 29) (n := 0) dX9_placeNow_29 rfl ?_
    refine sm_getfieldR (pc := 30) (ci := 9) (n := 26) (C := RX9) (T := TX9) (N := 63) rfl rfl inz9 rfl (by decide) rfl wd_1044 rfl dX9_placeNow_30 ?_
    refine sm_iload_n (pc := 33) (n := 1) dX9_placeNow_33 rfl ?_
    refine sm_iaload (pc := 34) dX9_placeNow_34 ?_
    refine sm_join (pc := 35) (pc' := 68) ?_ (fun j68 hj68 => ?_)
    · skip
      refine sm_aload_n (pc := 68) (n := 0) dX9_placeNow_68 rfl ?_
      refine sm_getfieldR (pc := 69) (ci := 9) (n := 26) (C := RX9) (T := TX9) (N := 63) rfl rfl inz9 rfl (by decide) rfl wd_1044 rfl dX9_placeNow_69 ?_
      refine sm_iload_n (pc := 72) (n := 1) dX9_placeNow_72 rfl ?_
      refine sm_iaload (pc := 73) dX9_placeNow_73 ?_
      refine sm_iconst (pc := 74) dX9_placeNow_74 zc_i_1 ?_
      refine sm_isub (pc := 75) dX9_placeNow_75 ?_
      exact sm_ireturn (pc := 76) dX9_placeNow_76 rfl
    refine sm_if_ne (pc := 35) (tgt := 68) dX9_placeNow_35 (by decide) ?_ ?_
    · skip
      exact hj68
    · skip
      refine sm_aload_n (pc := 38) (n := 0) dX9_placeNow_38 rfl ?_
      refine sm_getfieldR (pc := 39) (ci := 9) (n := 27) (C := RX9) (T := TX9) (N := 63) rfl rfl inz9 rfl (by decide) rfl wd_1045 rfl dX9_placeNow_39 ?_
      refine sm_aload_n (pc := 42) (n := 0) dX9_placeNow_42 rfl ?_
      refine sm_getfieldI (pc := 43) (ci := 9) (n := 28) (C := RX9) (T := TX9) (N := 63) rfl rfl inz9 rfl (by decide) rfl wd_1046 rfl dX9_placeNow_43 ?_
      refine sm_iload_n (pc := 46) (n := 1) dX9_placeNow_46 rfl ?_
      refine sm_iastore (pc := 47) dX9_placeNow_47 ?_
      refine sm_aload_n (pc := 48) (n := 0) dX9_placeNow_48 rfl ?_
      refine sm_dup (pc := 49) dX9_placeNow_49 ?_
      refine sm_getfieldI (pc := 50) (ci := 9) (n := 28) (C := RX9) (T := TX9) (N := 63) rfl rfl inz9 rfl (by decide) rfl wd_1046 rfl dX9_placeNow_50 ?_
      refine sm_iconst (pc := 53) dX9_placeNow_53 zc_i_1 ?_
      refine sm_iadd (pc := 54) dX9_placeNow_54 ?_
      refine sm_putI (pc := 55) (ci := 9) (n := 28) (ty := tyX9 28) rfl (by decide) rfl rfl (zput (C := RX9) (T := TX9) (N := 63) (ty0 := tyX9) (ty := tyX9 28) inz9 tyX9_ok nmX9 rfl (by decide) wd_1046 rfl rfl dX9_placeNow_55) ?_
      refine sm_aload_n (pc := 58) (n := 0) dX9_placeNow_58 rfl ?_
      refine sm_getfieldR (pc := 59) (ci := 9) (n := 26) (C := RX9) (T := TX9) (N := 63) rfl rfl inz9 rfl (by decide) rfl wd_1044 rfl dX9_placeNow_59 ?_
      refine sm_iload_n (pc := 62) (n := 1) dX9_placeNow_62 rfl ?_
      refine sm_aload_n (pc := 63) (n := 0) dX9_placeNow_63 rfl ?_
      refine sm_getfieldI (pc := 64) (ci := 9) (n := 28) (C := RX9) (T := TX9) (N := 63) rfl rfl inz9 rfl (by decide) rfl wd_1046 rfl dX9_placeNow_64 ?_
      refine sm_iastore (pc := 67) dX9_placeNow_67 ?_
      exact hj68
  · skip
    refine sm_bipush (pc := 11) dX9_placeNow_11 zc_b_6 ?_
    refine sm_iload_n (pc := 13) (n := 1) dX9_placeNow_13 rfl ?_
    refine sm_imul (pc := 14) dX9_placeNow_14 ?_
    refine sm_aload_n (pc := 15) (n := 0) dX9_placeNow_15 rfl ?_
    refine sm_getfieldR (pc := 16) (ci := 9) (n := 32) (C := RX9) (T := TX9) (N := 63) rfl rfl inz9 rfl (by decide) rfl wd_1050 rfl dX9_placeNow_16 ?_
    refine sm_iload_n (pc := 19) (n := 2) dX9_placeNow_19 rfl ?_
    refine sm_iaload (pc := 20) dX9_placeNow_20 ?_
    refine sm_iadd (pc := 21) dX9_placeNow_21 ?_
    refine sm_istore_n (pc := 22) (n := 1) dX9_placeNow_22 rfl ?_
    refine sm_iinc (pc := 23) (n := 2) dX9_placeNow_23 zc_i_m1 ?_
    refine sm_goto (pc := 26) (tgt := 7) dX9_placeNow_26 (by decide) ?_
    exact hr7
noncomputable def f_X9_placeNow {d : Nat} : List zV → zH d → zP d → Bool := zfn 3 b_X9_placeNow
theorem m_X9_placeNow {d : Nat} : zMet (d := d) X_X9_placeNow yX9_placeNow 1 f_X9_placeNow := zmet_mk (X := X_X9_placeNow) (by decide) rfl rfl s_X9_placeNow

abbrev X_X9_swaps : zM := (RX9, cX9_swaps, 4, none, "swaps")
noncomputable def b_X9_swaps {d : Nat} (P : zP d) : zK d := (xald 0 (xgfR 25 31 (xild 1 (xald1 0 (xist 3 (xald 0 (xgfR 25 31 (xild 1 (xald 0 (xgfR 25 31 (xild 2 (xald1 0 (xast1 0 (fun v => v) (xald 0 (xgfR 25 31 (xild 2 (xild 3 (xast1 0 (fun v => v) (xvret P)))))))))))))))))))
set_option maxRecDepth 100000 in
set_option maxHeartbeats 4000000 in
theorem s_X9_swaps {d : Nat} (P : zP d) : zSim X_X9_swaps 1 P 0 (b_X9_swaps P) := by
  unfold b_X9_swaps
  refine sm_aload_n (pc := 0) (n := 0) dX9_swaps_0 rfl ?_
  refine sm_getfieldR (pc := 1) (ci := 9) (n := 31) (C := RX9) (T := TX9) (N := 63) rfl rfl inz9 rfl (by decide) rfl wd_1049 rfl dX9_swaps_1 ?_
  refine sm_iload_n (pc := 4) (n := 1) dX9_swaps_4 rfl ?_
  refine sm_iaload (pc := 5) dX9_swaps_5 ?_
  refine sm_istore_n (pc := 6) (n := 3) dX9_swaps_6 rfl ?_
  refine sm_aload_n (pc := 7) (n := 0) dX9_swaps_7 rfl ?_
  refine sm_getfieldR (pc := 8) (ci := 9) (n := 31) (C := RX9) (T := TX9) (N := 63) rfl rfl inz9 rfl (by decide) rfl wd_1049 rfl dX9_swaps_8 ?_
  refine sm_iload_n (pc := 11) (n := 1) dX9_swaps_11 rfl ?_
  refine sm_aload_n (pc := 12) (n := 0) dX9_swaps_12 rfl ?_
  refine sm_getfieldR (pc := 13) (ci := 9) (n := 31) (C := RX9) (T := TX9) (N := 63) rfl rfl inz9 rfl (by decide) rfl wd_1049 rfl dX9_swaps_13 ?_
  refine sm_iload_n (pc := 16) (n := 2) dX9_swaps_16 rfl ?_
  refine sm_iaload (pc := 17) dX9_swaps_17 ?_
  refine sm_iastore (pc := 18) dX9_swaps_18 ?_
  refine sm_aload_n (pc := 19) (n := 0) dX9_swaps_19 rfl ?_
  refine sm_getfieldR (pc := 20) (ci := 9) (n := 31) (C := RX9) (T := TX9) (N := 63) rfl rfl inz9 rfl (by decide) rfl wd_1049 rfl dX9_swaps_20 ?_
  refine sm_iload_n (pc := 23) (n := 2) dX9_swaps_23 rfl ?_
  refine sm_iload_n (pc := 24) (n := 3) dX9_swaps_24 rfl ?_
  refine sm_iastore (pc := 25) dX9_swaps_25 ?_
  exact sm_vreturn (pc := 26) dX9_swaps_26 rfl
noncomputable def f_X9_swaps {d : Nat} : List zV → zH d → zP d → Bool := zfn 4 b_X9_swaps
theorem m_X9_swaps {d : Nat} : zMet (d := d) X_X9_swaps yX9_swaps 1 f_X9_swaps := zmet_mk (X := X_X9_swaps) (by decide) rfl rfl s_X9_swaps

abbrev X_X9_spreads : zM := (RX9, cX9_spreads, 8, none, "spreads")
noncomputable def b_X9_spreads {d : Nat} (self : List zV → zH d → zP d → Bool) (P : zP d) : zK d := (xild 3 (xald 0 (xald 0 (xgfI 25 25 (xpI 0 (xcV 25 3 0 0 f_X9_partOf (xcmp Nat.beq (xald 1 (xild 2 (xald 0 (xcV 25 1 0 0 f_X9_placeNow (xbin zadd (xdup2 (xald1 0 (xild 5 (xbin zadd (xast1 0 (fun v => v) (xvret P))))))))))) (xpI 0 (xist 6 (xloop (fun r30 => (xild 6 (xpI 6 (xjoin (xild 4 (xild 6 (xcmp Nat.beq (xald 0 (xald 1 (xild 2 (xild 3 (xpI 1 (xbin zadd (xpI 0 (xild 5 (xcV 25 6 0 0 self (xvret P)))))))))) (xild 4 (xist 7 (xloop (fun r81 => (xild 7 (xild 6 (xcmp tge (xvret P) (xald 0 (xald 0 (xild 4 (xild 3 (xcV 25 3 0 0 f_X9_cellAt (xald 0 (xild 7 (xild 3 (xcV 25 3 0 0 f_X9_cellAt (xcV 25 3 0 0 f_X9_swaps (xald 0 (xgfR 25 32 (xald 0 (xgfR 25 31 (xald 0 (xild 4 (xild 3 (xcV 25 3 0 0 f_X9_cellAt (xald1 0 (xild 4 (xast1 0 (fun v => v) (xald 0 (xald 1 (xild 2 (xild 3 (xild 4 (xpI 1 (xbin zadd (xild 7 (xild 4 (xjoin (xcV 25 6 0 0 self (xald 0 (xald 0 (xild 4 (xild 3 (xcV 25 3 0 0 f_X9_cellAt (xald 0 (xild 7 (xild 3 (xcV 25 3 0 0 f_X9_cellAt (xcV 25 3 0 0 f_X9_swaps (xinc 7 1 r81)))))))))))) (fun j148 => (xcmp Nat.beq (xild 5 j148) (xild 5 (xun zneg j148))))))))))))))))))))))))))))))))))))))) 100000)))))) (fun j57 => (xcmp tge j57 (xald 0 (xald 0 (xgfI 25 25 (xild 6 (xcV 25 3 0 0 f_X9_partOf (xild 3 (xcmp tle j57 (xinc 6 1 r30)))))))))))))) 100000))))))))))
set_option maxRecDepth 100000 in
set_option maxHeartbeats 4000000 in
theorem s_X9_spreads {d : Nat} (n : Nat) (self : List zV → zH d → zP d → Bool) (hself : zMet X_X9_spreads yX9_spreads (2 + n) self) (P : zP d) : zSim X_X9_spreads (2 + (n + 1)) P 0 (b_X9_spreads self P) := by
  unfold b_X9_spreads
  refine sm_iload_n (pc := 0) (n := 3) dX9_spreads_0 rfl ?_
  refine sm_aload_n (pc := 1) (n := 0) dX9_spreads_1 rfl ?_
  refine sm_aload_n (pc := 2) (n := 0) dX9_spreads_2 rfl ?_
  refine sm_getfieldI (pc := 3) (ci := 9) (n := 25) (C := RX9) (T := TX9) (N := 63) rfl rfl inz9 rfl (by decide) rfl wd_1043 rfl dX9_spreads_3 ?_
  refine sm_iconst (pc := 6) dX9_spreads_6 zc_i_0 ?_
  refine sm_cV (pc := 7) (ci := 9) (n := 3) (mc := 0) (ms := 0) rfl m_X9_partOf (zrunV (n := 2) (ci := 9) rfl rfl wd_925 wd_14 wd_922 wd_924 ws_56 (by decide) (by omega) (by decide) dX9_spreads_7) ?_
  refine sm_icmp_ne (pc := 10) (tgt := 27) dX9_spreads_10 (by decide) ?_ ?_
  · skip
    refine sm_iconst (pc := 27) dX9_spreads_27 zc_i_0 ?_
    refine sm_istore (pc := 28) (n := 6) dX9_spreads_28 ?_
    refine sm_loop (fun r30 hr30 => ?_) _
    refine sm_iload (pc := 30) (n := 6) dX9_spreads_30 ?_
    refine sm_bipush (pc := 32) dX9_spreads_32 zc_b_6 ?_
    refine sm_join (pc := 34) (pc' := 57) ?_ (fun j57 hj57 => ?_)
    · skip
      refine sm_iload (pc := 57) (n := 4) dX9_spreads_57 ?_
      refine sm_iload (pc := 59) (n := 6) dX9_spreads_59 ?_
      refine sm_icmp_ne (pc := 61) (tgt := 77) dX9_spreads_61 (by decide) ?_ ?_
      · skip
        refine sm_iload (pc := 77) (n := 4) dX9_spreads_77 ?_
        refine sm_istore (pc := 79) (n := 7) dX9_spreads_79 ?_
        refine sm_loop (fun r81 hr81 => ?_) _
        refine sm_iload (pc := 81) (n := 7) dX9_spreads_81 ?_
        refine sm_iload (pc := 83) (n := 6) dX9_spreads_83 ?_
        refine sm_icmp_ge (pc := 85) (tgt := 175) dX9_spreads_85 (by decide) ?_ ?_
        · skip
          exact sm_vreturn (pc := 175) dX9_spreads_175 rfl
        · skip
          refine sm_aload_n (pc := 88) (n := 0) dX9_spreads_88 rfl ?_
          refine sm_aload_n (pc := 89) (n := 0) dX9_spreads_89 rfl ?_
          refine sm_iload (pc := 90) (n := 4) dX9_spreads_90 ?_
          refine sm_iload_n (pc := 92) (n := 3) dX9_spreads_92 rfl ?_
          refine sm_cV (pc := 93) (ci := 9) (n := 3) (mc := 0) (ms := 0) rfl m_X9_cellAt (zrunV (n := 2) (ci := 9) rfl rfl wd_959 wd_14 wd_956 wd_958 ws_62 (by decide) (by omega) (by decide) dX9_spreads_93) ?_
          refine sm_aload_n (pc := 96) (n := 0) dX9_spreads_96 rfl ?_
          refine sm_iload (pc := 97) (n := 7) dX9_spreads_97 ?_
          refine sm_iload_n (pc := 99) (n := 3) dX9_spreads_99 rfl ?_
          refine sm_cV (pc := 100) (ci := 9) (n := 3) (mc := 0) (ms := 0) rfl m_X9_cellAt (zrunV (n := 2) (ci := 9) rfl rfl wd_959 wd_14 wd_956 wd_958 ws_62 (by decide) (by omega) (by decide) dX9_spreads_100) ?_
          refine sm_cV (pc := 103) (ci := 9) (n := 3) (mc := 0) (ms := 0) rfl m_X9_swaps (zrunV (n := 2) (ci := 9) rfl rfl wd_983 wd_14 wd_980 wd_982 ws_68 (by decide) (by omega) (by decide) dX9_spreads_103) ?_
          refine sm_aload_n (pc := 106) (n := 0) dX9_spreads_106 rfl ?_
          refine sm_getfieldR (pc := 107) (ci := 9) (n := 32) (C := RX9) (T := TX9) (N := 63) rfl rfl inz9 rfl (by decide) rfl wd_1050 rfl dX9_spreads_107 ?_
          refine sm_aload_n (pc := 110) (n := 0) dX9_spreads_110 rfl ?_
          refine sm_getfieldR (pc := 111) (ci := 9) (n := 31) (C := RX9) (T := TX9) (N := 63) rfl rfl inz9 rfl (by decide) rfl wd_1049 rfl dX9_spreads_111 ?_
          refine sm_aload_n (pc := 114) (n := 0) dX9_spreads_114 rfl ?_
          refine sm_iload (pc := 115) (n := 4) dX9_spreads_115 ?_
          refine sm_iload_n (pc := 117) (n := 3) dX9_spreads_117 rfl ?_
          refine sm_cV (pc := 118) (ci := 9) (n := 3) (mc := 0) (ms := 0) rfl m_X9_cellAt (zrunV (n := 2) (ci := 9) rfl rfl wd_959 wd_14 wd_956 wd_958 ws_62 (by decide) (by omega) (by decide) dX9_spreads_118) ?_
          refine sm_iaload (pc := 121) dX9_spreads_121 ?_
          refine sm_iload (pc := 122) (n := 4) dX9_spreads_122 ?_
          refine sm_iastore (pc := 124) dX9_spreads_124 ?_
          refine sm_aload_n (pc := 125) (n := 0) dX9_spreads_125 rfl ?_
          refine sm_aload_n (pc := 126) (n := 1) dX9_spreads_126 rfl ?_
          refine sm_iload_n (pc := 127) (n := 2) dX9_spreads_127 rfl ?_
          refine sm_iload_n (pc := 128) (n := 3) dX9_spreads_128 rfl ?_
          refine sm_iload (pc := 129) (n := 4) dX9_spreads_129 ?_
          refine sm_iconst (pc := 131) dX9_spreads_131 zc_i_1 ?_
          refine sm_iadd (pc := 132) dX9_spreads_132 ?_
          refine sm_iload (pc := 133) (n := 7) dX9_spreads_133 ?_
          refine sm_iload (pc := 135) (n := 4) dX9_spreads_135 ?_
          refine sm_join (pc := 137) (pc' := 148) ?_ (fun j148 hj148 => ?_)
          · skip
            refine sm_cV (pc := 148) (ci := 9) (n := 6) (mc := 0) (ms := 0) rfl hself (zrunV (n := 5) (ci := 9) rfl rfl wd_975 wd_14 wd_972 wd_974 ws_66 (by decide) (by omega) (by decide) dX9_spreads_148) ?_
            refine sm_aload_n (pc := 151) (n := 0) dX9_spreads_151 rfl ?_
            refine sm_aload_n (pc := 152) (n := 0) dX9_spreads_152 rfl ?_
            refine sm_iload (pc := 153) (n := 4) dX9_spreads_153 ?_
            refine sm_iload_n (pc := 155) (n := 3) dX9_spreads_155 rfl ?_
            refine sm_cV (pc := 156) (ci := 9) (n := 3) (mc := 0) (ms := 0) rfl m_X9_cellAt (zrunV (n := 2) (ci := 9) rfl rfl wd_959 wd_14 wd_956 wd_958 ws_62 (by decide) (by omega) (by decide) dX9_spreads_156) ?_
            refine sm_aload_n (pc := 159) (n := 0) dX9_spreads_159 rfl ?_
            refine sm_iload (pc := 160) (n := 7) dX9_spreads_160 ?_
            refine sm_iload_n (pc := 162) (n := 3) dX9_spreads_162 rfl ?_
            refine sm_cV (pc := 163) (ci := 9) (n := 3) (mc := 0) (ms := 0) rfl m_X9_cellAt (zrunV (n := 2) (ci := 9) rfl rfl wd_959 wd_14 wd_956 wd_958 ws_62 (by decide) (by omega) (by decide) dX9_spreads_163) ?_
            refine sm_cV (pc := 166) (ci := 9) (n := 3) (mc := 0) (ms := 0) rfl m_X9_swaps (zrunV (n := 2) (ci := 9) rfl rfl wd_983 wd_14 wd_980 wd_982 ws_68 (by decide) (by omega) (by decide) dX9_spreads_166) ?_
            refine sm_iinc (pc := 169) (n := 7) dX9_spreads_169 zc_i_1 ?_
            refine sm_goto (pc := 172) (tgt := 81) dX9_spreads_172 (by decide) ?_
            exact hr81
          refine sm_icmp_ne (pc := 137) (tgt := 145) dX9_spreads_137 (by decide) ?_ ?_
          · skip
            refine sm_iload (pc := 145) (n := 5) dX9_spreads_145 ?_
            refine sm_ineg (pc := 147) dX9_spreads_147 ?_
            exact hj148
          · skip
            refine sm_iload (pc := 140) (n := 5) dX9_spreads_140 ?_
            refine sm_goto (pc := 142) (tgt := 148) dX9_spreads_142 (by decide) ?_
            exact hj148
      · skip
        refine sm_aload_n (pc := 64) (n := 0) dX9_spreads_64 rfl ?_
        refine sm_aload_n (pc := 65) (n := 1) dX9_spreads_65 rfl ?_
        refine sm_iload_n (pc := 66) (n := 2) dX9_spreads_66 rfl ?_
        refine sm_iload_n (pc := 67) (n := 3) dX9_spreads_67 rfl ?_
        refine sm_iconst (pc := 68) dX9_spreads_68 zc_i_1 ?_
        refine sm_iadd (pc := 69) dX9_spreads_69 ?_
        refine sm_iconst (pc := 70) dX9_spreads_70 zc_i_0 ?_
        refine sm_iload (pc := 71) (n := 5) dX9_spreads_71 ?_
        refine sm_cV (pc := 73) (ci := 9) (n := 6) (mc := 0) (ms := 0) rfl hself (zrunV (n := 5) (ci := 9) rfl rfl wd_975 wd_14 wd_972 wd_974 ws_66 (by decide) (by omega) (by decide) dX9_spreads_73) ?_
        exact sm_vreturn (pc := 76) dX9_spreads_76 rfl
    refine sm_icmp_ge (pc := 34) (tgt := 57) dX9_spreads_34 (by decide) ?_ ?_
    · skip
      exact hj57
    · skip
      refine sm_aload_n (pc := 37) (n := 0) dX9_spreads_37 rfl ?_
      refine sm_aload_n (pc := 38) (n := 0) dX9_spreads_38 rfl ?_
      refine sm_getfieldI (pc := 39) (ci := 9) (n := 25) (C := RX9) (T := TX9) (N := 63) rfl rfl inz9 rfl (by decide) rfl wd_1043 rfl dX9_spreads_39 ?_
      refine sm_iload (pc := 42) (n := 6) dX9_spreads_42 ?_
      refine sm_cV (pc := 44) (ci := 9) (n := 3) (mc := 0) (ms := 0) rfl m_X9_partOf (zrunV (n := 2) (ci := 9) rfl rfl wd_925 wd_14 wd_922 wd_924 ws_56 (by decide) (by omega) (by decide) dX9_spreads_44) ?_
      refine sm_iload_n (pc := 47) (n := 3) dX9_spreads_47 rfl ?_
      refine sm_icmp_le (pc := 48) (tgt := 57) dX9_spreads_48 (by decide) ?_ ?_
      · skip
        exact hj57
      · skip
        refine sm_iinc (pc := 51) (n := 6) dX9_spreads_51 zc_i_1 ?_
        refine sm_goto (pc := 54) (tgt := 30) dX9_spreads_54 (by decide) ?_
        exact hr30
  · skip
    refine sm_aload_n (pc := 13) (n := 1) dX9_spreads_13 rfl ?_
    refine sm_iload_n (pc := 14) (n := 2) dX9_spreads_14 rfl ?_
    refine sm_aload_n (pc := 15) (n := 0) dX9_spreads_15 rfl ?_
    refine sm_cV (pc := 16) (ci := 9) (n := 1) (mc := 0) (ms := 0) rfl m_X9_placeNow (zrunV (n := 0) (ci := 9) rfl rfl wd_979 wd_14 wd_976 wd_978 ws_67 (by decide) (by omega) (by decide) dX9_spreads_16) ?_
    refine sm_iadd (pc := 19) dX9_spreads_19 ?_
    refine sm_dup2 (pc := 20) dX9_spreads_20 ?_
    refine sm_iaload (pc := 21) dX9_spreads_21 ?_
    refine sm_iload (pc := 22) (n := 5) dX9_spreads_22 ?_
    refine sm_iadd (pc := 24) dX9_spreads_24 ?_
    refine sm_iastore (pc := 25) dX9_spreads_25 ?_
    exact sm_vreturn (pc := 26) dX9_spreads_26 rfl
noncomputable def f_X9_spreads {d : Nat} : List zV → zH d → zP d → Bool := zrec 8 b_X9_spreads 14
theorem m_X9_spreads {d : Nat} : zMet (d := d) X_X9_spreads yX9_spreads 16 f_X9_spreads := zmet_rec (X := X_X9_spreads) (fr := 2) (by decide) rfl rfl (fun n f hf P => s_X9_spreads n f hf P) 14

abbrev X_X9_sumsOf : zM := (RX9, cX9_sumsOf, 4, none, "sumsOf")
noncomputable def b_X9_sumsOf {d : Nat} (P : zP d) : zK d := (xpI 0 (xist 2 (xloop (fun r2 => (xild 2 (xpI 12000 (xcmp tge (xpI 0 (xist 2 (xloop (fun r21 => (xild 2 (xald 0 (xgfR 25 21 (xald 0 (xgfI 25 25 (xald1 0 (xcmp tge (xvret P) (xpI 0 (xist 3 (xloop (fun r36 => (xild 3 (xald 0 (xgfI 25 0 (xcmp tge (xald 0 (xald 1 (xpI 720 (xild 2 (xbin zmul (xpI 0 (xpI 0 (xpI 1 (xcV 25 6 0 0 f_X9_spreads (xinc 2 1 r21)))))))))) (xald 0 (xgfR 25 31 (xild 3 (xald 0 (xgfR 25 33 (xald 0 (xgfR 25 22 (xpI 6 (xald 0 (xgfR 25 20 (xald 0 (xgfI 25 25 (xald1 0 (xild 2 (xbin zadd (xbin zmul (xild 3 (xbin zadd (xald1 0 (xald1 0 (xast1 0 (fun v => v) (xinc 3 1 r36))))))))))))))))))))))))))) 100000))))))))))) 100000))) (xald 1 (xild 2 (xpI 0 (xast1 0 (fun v => v) (xinc 2 1 r2))))))))) 100000)))
set_option maxRecDepth 100000 in
set_option maxHeartbeats 4000000 in
theorem s_X9_sumsOf {d : Nat} (P : zP d) : zSim X_X9_sumsOf 17 P 0 (b_X9_sumsOf P) := by
  unfold b_X9_sumsOf
  refine sm_iconst (pc := 0) dX9_sumsOf_0 zc_i_0 ?_
  refine sm_istore_n (pc := 1) (n := 2) dX9_sumsOf_1 rfl ?_
  refine sm_loop (fun r2 hr2 => ?_) _
  refine sm_iload_n (pc := 2) (n := 2) dX9_sumsOf_2 rfl ?_
  refine sm_sipush (pc := 3) dX9_sumsOf_3 zc_s_12000 ?_
  refine sm_icmp_ge (pc := 6) (tgt := 19) dX9_sumsOf_6 (by decide) ?_ ?_
  · skip
    refine sm_iconst (pc := 19) dX9_sumsOf_19 zc_i_0 ?_
    refine sm_istore_n (pc := 20) (n := 2) dX9_sumsOf_20 rfl ?_
    refine sm_loop (fun r21 hr21 => ?_) _
    refine sm_iload_n (pc := 21) (n := 2) dX9_sumsOf_21 rfl ?_
    refine sm_aload_n (pc := 22) (n := 0) dX9_sumsOf_22 rfl ?_
    refine sm_getfieldR (pc := 23) (ci := 9) (n := 21) (C := RX9) (T := TX9) (N := 63) rfl rfl inz9 rfl (by decide) rfl wd_1039 rfl dX9_sumsOf_23 ?_
    refine sm_aload_n (pc := 26) (n := 0) dX9_sumsOf_26 rfl ?_
    refine sm_getfieldI (pc := 27) (ci := 9) (n := 25) (C := RX9) (T := TX9) (N := 63) rfl rfl inz9 rfl (by decide) rfl wd_1043 rfl dX9_sumsOf_27 ?_
    refine sm_iaload (pc := 30) dX9_sumsOf_30 ?_
    refine sm_icmp_ge (pc := 31) (tgt := 101) dX9_sumsOf_31 (by decide) ?_ ?_
    · skip
      exact sm_vreturn (pc := 101) dX9_sumsOf_101 rfl
    · skip
      refine sm_iconst (pc := 34) dX9_sumsOf_34 zc_i_0 ?_
      refine sm_istore_n (pc := 35) (n := 3) dX9_sumsOf_35 rfl ?_
      refine sm_loop (fun r36 hr36 => ?_) _
      refine sm_iload_n (pc := 36) (n := 3) dX9_sumsOf_36 rfl ?_
      refine sm_aload_n (pc := 37) (n := 0) dX9_sumsOf_37 rfl ?_
      refine sm_getfieldI (pc := 38) (ci := 9) (n := 0) (C := RX9) (T := TX9) (N := 63) rfl rfl inz9 rfl (by decide) rfl wd_1018 rfl dX9_sumsOf_38 ?_
      refine sm_icmp_ge (pc := 41) (tgt := 82) dX9_sumsOf_41 (by decide) ?_ ?_
      · skip
        refine sm_aload_n (pc := 82) (n := 0) dX9_sumsOf_82 rfl ?_
        refine sm_aload_n (pc := 83) (n := 1) dX9_sumsOf_83 rfl ?_
        refine sm_sipush (pc := 84) dX9_sumsOf_84 zc_s_720 ?_
        refine sm_iload_n (pc := 87) (n := 2) dX9_sumsOf_87 rfl ?_
        refine sm_imul (pc := 88) dX9_sumsOf_88 ?_
        refine sm_iconst (pc := 89) dX9_sumsOf_89 zc_i_0 ?_
        refine sm_iconst (pc := 90) dX9_sumsOf_90 zc_i_0 ?_
        refine sm_iconst (pc := 91) dX9_sumsOf_91 zc_i_1 ?_
        refine sm_cV (pc := 92) (ci := 9) (n := 6) (mc := 0) (ms := 0) rfl m_X9_spreads (zrunV (n := 5) (ci := 9) rfl rfl wd_975 wd_14 wd_972 wd_974 ws_66 (by decide) (by decide) (by decide) dX9_sumsOf_92) ?_
        refine sm_iinc (pc := 95) (n := 2) dX9_sumsOf_95 zc_i_1 ?_
        refine sm_goto (pc := 98) (tgt := 21) dX9_sumsOf_98 (by decide) ?_
        exact hr21
      · skip
        refine sm_aload_n (pc := 44) (n := 0) dX9_sumsOf_44 rfl ?_
        refine sm_getfieldR (pc := 45) (ci := 9) (n := 31) (C := RX9) (T := TX9) (N := 63) rfl rfl inz9 rfl (by decide) rfl wd_1049 rfl dX9_sumsOf_45 ?_
        refine sm_iload_n (pc := 48) (n := 3) dX9_sumsOf_48 rfl ?_
        refine sm_aload_n (pc := 49) (n := 0) dX9_sumsOf_49 rfl ?_
        refine sm_getfieldR (pc := 50) (ci := 9) (n := 33) (C := RX9) (T := TX9) (N := 63) rfl rfl inz9 rfl (by decide) rfl wd_1051 rfl dX9_sumsOf_50 ?_
        refine sm_aload_n (pc := 53) (n := 0) dX9_sumsOf_53 rfl ?_
        refine sm_getfieldR (pc := 54) (ci := 9) (n := 22) (C := RX9) (T := TX9) (N := 63) rfl rfl inz9 rfl (by decide) rfl wd_1040 rfl dX9_sumsOf_54 ?_
        refine sm_bipush (pc := 57) dX9_sumsOf_57 zc_b_6 ?_
        refine sm_aload_n (pc := 59) (n := 0) dX9_sumsOf_59 rfl ?_
        refine sm_getfieldR (pc := 60) (ci := 9) (n := 20) (C := RX9) (T := TX9) (N := 63) rfl rfl inz9 rfl (by decide) rfl wd_1038 rfl dX9_sumsOf_60 ?_
        refine sm_aload_n (pc := 63) (n := 0) dX9_sumsOf_63 rfl ?_
        refine sm_getfieldI (pc := 64) (ci := 9) (n := 25) (C := RX9) (T := TX9) (N := 63) rfl rfl inz9 rfl (by decide) rfl wd_1043 rfl dX9_sumsOf_64 ?_
        refine sm_iaload (pc := 67) dX9_sumsOf_67 ?_
        refine sm_iload_n (pc := 68) (n := 2) dX9_sumsOf_68 rfl ?_
        refine sm_iadd (pc := 69) dX9_sumsOf_69 ?_
        refine sm_imul (pc := 70) dX9_sumsOf_70 ?_
        refine sm_iload_n (pc := 71) (n := 3) dX9_sumsOf_71 rfl ?_
        refine sm_iadd (pc := 72) dX9_sumsOf_72 ?_
        refine sm_iaload (pc := 73) dX9_sumsOf_73 ?_
        refine sm_iaload (pc := 74) dX9_sumsOf_74 ?_
        refine sm_iastore (pc := 75) dX9_sumsOf_75 ?_
        refine sm_iinc (pc := 76) (n := 3) dX9_sumsOf_76 zc_i_1 ?_
        refine sm_goto (pc := 79) (tgt := 36) dX9_sumsOf_79 (by decide) ?_
        exact hr36
  · skip
    refine sm_aload_n (pc := 9) (n := 1) dX9_sumsOf_9 rfl ?_
    refine sm_iload_n (pc := 10) (n := 2) dX9_sumsOf_10 rfl ?_
    refine sm_iconst (pc := 11) dX9_sumsOf_11 zc_i_0 ?_
    refine sm_iastore (pc := 12) dX9_sumsOf_12 ?_
    refine sm_iinc (pc := 13) (n := 2) dX9_sumsOf_13 zc_i_1 ?_
    refine sm_goto (pc := 16) (tgt := 2) dX9_sumsOf_16 (by decide) ?_
    exact hr2
noncomputable def f_X9_sumsOf {d : Nat} : List zV → zH d → zP d → Bool := zfn 4 b_X9_sumsOf
theorem m_X9_sumsOf {d : Nat} : zMet (d := d) X_X9_sumsOf yX9_sumsOf 17 f_X9_sumsOf := zmet_mk (X := X_X9_sumsOf) (by decide) rfl rfl s_X9_sumsOf

abbrev X_X9_begins : zM := (RX9, cX9_begins, 3, none, "begins")
noncomputable def b_X9_begins {d : Nat} (P : zP d) : zK d := (xpI 0 (xist 2 (xloop (fun r2 => (xild 2 (xald 0 (xgfI 25 28 (xcmp tge (xald 0 (xpI 0 (xpfI 25 28 (xald 0 (xild 1 (xpfI 25 25 (xpI 1 (xist 2 (xloop (fun r40 => (xild 2 (xald 0 (xgfI 25 0 (xcmp tle (xald 0 (xgfR 25 33 (xild 2 (xild 2 (xast1 0 (fun v => v) (xinc 2 1 r40)))))) (xald 0 (xald 0 (xgfR 25 29 (xcV 25 2 0 0 f_X9_sumsOf (xvret P)))))))))) 100000))))))))) (xald 0 (xgfR 25 26 (xald 0 (xgfR 25 27 (xild 2 (xald1 0 (xpI 0 (xast1 0 (fun v => v) (xinc 2 1 r2)))))))))))))) 100000)))
set_option maxRecDepth 100000 in
set_option maxHeartbeats 4000000 in
theorem s_X9_begins {d : Nat} (P : zP d) : zSim X_X9_begins 18 P 0 (b_X9_begins P) := by
  unfold b_X9_begins
  refine sm_iconst (pc := 0) dX9_begins_0 zc_i_0 ?_
  refine sm_istore_n (pc := 1) (n := 2) dX9_begins_1 rfl ?_
  refine sm_loop (fun r2 hr2 => ?_) _
  refine sm_iload_n (pc := 2) (n := 2) dX9_begins_2 rfl ?_
  refine sm_aload_n (pc := 3) (n := 0) dX9_begins_3 rfl ?_
  refine sm_getfieldI (pc := 4) (ci := 9) (n := 28) (C := RX9) (T := TX9) (N := 63) rfl rfl inz9 rfl (by decide) rfl wd_1046 rfl dX9_begins_4 ?_
  refine sm_icmp_ge (pc := 7) (tgt := 28) dX9_begins_7 (by decide) ?_ ?_
  · skip
    refine sm_aload_n (pc := 28) (n := 0) dX9_begins_28 rfl ?_
    refine sm_iconst (pc := 29) dX9_begins_29 zc_i_0 ?_
    refine sm_putI (pc := 30) (ci := 9) (n := 28) (ty := tyX9 28) rfl (by decide) rfl rfl (zput (C := RX9) (T := TX9) (N := 63) (ty0 := tyX9) (ty := tyX9 28) inz9 tyX9_ok nmX9 rfl (by decide) wd_1046 rfl rfl dX9_begins_30) ?_
    refine sm_aload_n (pc := 33) (n := 0) dX9_begins_33 rfl ?_
    refine sm_iload_n (pc := 34) (n := 1) dX9_begins_34 rfl ?_
    refine sm_putI (pc := 35) (ci := 9) (n := 25) (ty := tyX9 25) rfl (by decide) rfl rfl (zput (C := RX9) (T := TX9) (N := 63) (ty0 := tyX9) (ty := tyX9 25) inz9 tyX9_ok nmX9 rfl (by decide) wd_1043 rfl rfl dX9_begins_35) ?_
    refine sm_iconst (pc := 38) dX9_begins_38 zc_i_1 ?_
    refine sm_istore_n (pc := 39) (n := 2) dX9_begins_39 rfl ?_
    refine sm_loop (fun r40 hr40 => ?_) _
    refine sm_iload_n (pc := 40) (n := 2) dX9_begins_40 rfl ?_
    refine sm_aload_n (pc := 41) (n := 0) dX9_begins_41 rfl ?_
    refine sm_getfieldI (pc := 42) (ci := 9) (n := 0) (C := RX9) (T := TX9) (N := 63) rfl rfl inz9 rfl (by decide) rfl wd_1018 rfl dX9_begins_42 ?_
    refine sm_icmp_gt (pc := 45) (tgt := 61) dX9_begins_45 (by decide) ?_ ?_
    · skip
      refine sm_aload_n (pc := 61) (n := 0) dX9_begins_61 rfl ?_
      refine sm_aload_n (pc := 62) (n := 0) dX9_begins_62 rfl ?_
      refine sm_getfieldR (pc := 63) (ci := 9) (n := 29) (C := RX9) (T := TX9) (N := 63) rfl rfl inz9 rfl (by decide) rfl wd_1047 rfl dX9_begins_63 ?_
      refine sm_cV (pc := 66) (ci := 9) (n := 2) (mc := 0) (ms := 0) rfl m_X9_sumsOf (zrunV (n := 1) (ci := 9) rfl rfl wd_971 wd_14 wd_968 wd_970 ws_65 (by decide) (by decide) (by decide) dX9_begins_66) ?_
      exact sm_vreturn (pc := 69) dX9_begins_69 rfl
    · skip
      refine sm_aload_n (pc := 48) (n := 0) dX9_begins_48 rfl ?_
      refine sm_getfieldR (pc := 49) (ci := 9) (n := 33) (C := RX9) (T := TX9) (N := 63) rfl rfl inz9 rfl (by decide) rfl wd_1051 rfl dX9_begins_49 ?_
      refine sm_iload_n (pc := 52) (n := 2) dX9_begins_52 rfl ?_
      refine sm_iload_n (pc := 53) (n := 2) dX9_begins_53 rfl ?_
      refine sm_iastore (pc := 54) dX9_begins_54 ?_
      refine sm_iinc (pc := 55) (n := 2) dX9_begins_55 zc_i_1 ?_
      refine sm_goto (pc := 58) (tgt := 40) dX9_begins_58 (by decide) ?_
      exact hr40
  · skip
    refine sm_aload_n (pc := 10) (n := 0) dX9_begins_10 rfl ?_
    refine sm_getfieldR (pc := 11) (ci := 9) (n := 26) (C := RX9) (T := TX9) (N := 63) rfl rfl inz9 rfl (by decide) rfl wd_1044 rfl dX9_begins_11 ?_
    refine sm_aload_n (pc := 14) (n := 0) dX9_begins_14 rfl ?_
    refine sm_getfieldR (pc := 15) (ci := 9) (n := 27) (C := RX9) (T := TX9) (N := 63) rfl rfl inz9 rfl (by decide) rfl wd_1045 rfl dX9_begins_15 ?_
    refine sm_iload_n (pc := 18) (n := 2) dX9_begins_18 rfl ?_
    refine sm_iaload (pc := 19) dX9_begins_19 ?_
    refine sm_iconst (pc := 20) dX9_begins_20 zc_i_0 ?_
    refine sm_iastore (pc := 21) dX9_begins_21 ?_
    refine sm_iinc (pc := 22) (n := 2) dX9_begins_22 zc_i_1 ?_
    refine sm_goto (pc := 25) (tgt := 2) dX9_begins_25 (by decide) ?_
    exact hr2
noncomputable def f_X9_begins {d : Nat} : List zV → zH d → zP d → Bool := zfn 3 b_X9_begins
theorem m_X9_begins {d : Nat} : zMet (d := d) X_X9_begins yX9_begins 18 f_X9_begins := zmet_mk (X := X_X9_begins) (by decide) rfl rfl s_X9_begins

abbrev X_X9_form : zM := (RX9, cX9_form, 7, (some .int), "form")
noncomputable def b_X9_form {d : Nat} (P : zP d) : zK d := (xpI 0 (xist 5 (xpI 0 (xist 6 (xloop (fun r6 => (xild 6 (xald 0 (xgfI 25 28 (xcmp tge (xild 5 (xiret P)) (xild 5 (xald 1 (xpI 720 (xild 2 (xbin zmul (xild 6 (xbin zadd (xald1 0 (xald 3 (xpI 720 (xild 4 (xbin zmul (xild 6 (xbin zadd (xald1 0 (xbin zmul (xbin zadd (xist 5 (xinc 6 1 r6)))))))))))))))))))))))) 100000)))))
set_option maxRecDepth 100000 in
set_option maxHeartbeats 4000000 in
theorem s_X9_form {d : Nat} (P : zP d) : zSim X_X9_form 1 P 0 (b_X9_form P) := by
  unfold b_X9_form
  refine sm_iconst (pc := 0) dX9_form_0 zc_i_0 ?_
  refine sm_istore (pc := 1) (n := 5) dX9_form_1 ?_
  refine sm_iconst (pc := 3) dX9_form_3 zc_i_0 ?_
  refine sm_istore (pc := 4) (n := 6) dX9_form_4 ?_
  refine sm_loop (fun r6 hr6 => ?_) _
  refine sm_iload (pc := 6) (n := 6) dX9_form_6 ?_
  refine sm_aload_n (pc := 8) (n := 0) dX9_form_8 rfl ?_
  refine sm_getfieldI (pc := 9) (ci := 9) (n := 28) (C := RX9) (T := TX9) (N := 63) rfl rfl inz9 rfl (by decide) rfl wd_1046 rfl dX9_form_9 ?_
  refine sm_icmp_ge (pc := 12) (tgt := 48) dX9_form_12 (by decide) ?_ ?_
  · skip
    refine sm_iload (pc := 48) (n := 5) dX9_form_48 ?_
    exact sm_ireturn (pc := 50) dX9_form_50 rfl
  · skip
    refine sm_iload (pc := 15) (n := 5) dX9_form_15 ?_
    refine sm_aload_n (pc := 17) (n := 1) dX9_form_17 rfl ?_
    refine sm_sipush (pc := 18) dX9_form_18 zc_s_720 ?_
    refine sm_iload_n (pc := 21) (n := 2) dX9_form_21 rfl ?_
    refine sm_imul (pc := 22) dX9_form_22 ?_
    refine sm_iload (pc := 23) (n := 6) dX9_form_23 ?_
    refine sm_iadd (pc := 25) dX9_form_25 ?_
    refine sm_iaload (pc := 26) dX9_form_26 ?_
    refine sm_aload_n (pc := 27) (n := 3) dX9_form_27 rfl ?_
    refine sm_sipush (pc := 28) dX9_form_28 zc_s_720 ?_
    refine sm_iload (pc := 31) (n := 4) dX9_form_31 ?_
    refine sm_imul (pc := 33) dX9_form_33 ?_
    refine sm_iload (pc := 34) (n := 6) dX9_form_34 ?_
    refine sm_iadd (pc := 36) dX9_form_36 ?_
    refine sm_iaload (pc := 37) dX9_form_37 ?_
    refine sm_imul (pc := 38) dX9_form_38 ?_
    refine sm_iadd (pc := 39) dX9_form_39 ?_
    refine sm_istore (pc := 40) (n := 5) dX9_form_40 ?_
    refine sm_iinc (pc := 42) (n := 6) dX9_form_42 zc_i_1 ?_
    refine sm_goto (pc := 45) (tgt := 6) dX9_form_45 (by decide) ?_
    exact hr6
noncomputable def f_X9_form {d : Nat} : List zV → zH d → zP d → Bool := zfn 7 b_X9_form
theorem m_X9_form {d : Nat} : zMet (d := d) X_X9_form yX9_form 1 f_X9_form := zmet_mk (X := X_X9_form) (by decide) rfl rfl s_X9_form

abbrev X_X9_power : zM := (RX9, cX9_power, 8, (some .int), "power")
noncomputable def b_X9_power {d : Nat} (P : zP d) : zK d := (xpL 1 (xlst 3 (xild 0 (xi2l (xlst 5 (xild 1 (xist 7 (xloop (fun r9 => (xild 7 (xif0 t0le (xlld 3 (xl2i (xiret P))) (xild 7 (xpI 1 (xbin zand (xpI 1 (xjoin (xlld 5 (xlld 5 (xbinj zmulj (xild 2 (xi2l (xbinjN zremj (xlst 5 (xild 7 (xpI 1 (xbin zshr (xist 7 r9))))))))))) (fun j30 => (xcmp Nat.beq (xlld 3 (xlld 5 (xbinj zmulj (xild 2 (xi2l (xbinjN zremj (xlst 3 j30))))))) j30)))))))))) 100000))))))))
set_option maxRecDepth 100000 in
set_option maxHeartbeats 4000000 in
theorem s_X9_power {d : Nat} (P : zP d) : zSim X_X9_power 1 P 0 (b_X9_power P) := by
  unfold b_X9_power
  refine sm_lconst (pc := 0) dX9_power_0 zc_l_1 ?_
  refine sm_lstore_n (pc := 1) (n := 3) dX9_power_1 rfl ?_
  refine sm_iload_n (pc := 2) (n := 0) dX9_power_2 rfl ?_
  refine sm_i2l (pc := 3) dX9_power_3 ?_
  refine sm_lstore (pc := 4) (n := 5) dX9_power_4 ?_
  refine sm_iload_n (pc := 6) (n := 1) dX9_power_6 rfl ?_
  refine sm_istore (pc := 7) (n := 7) dX9_power_7 ?_
  refine sm_loop (fun r9 hr9 => ?_) _
  refine sm_iload (pc := 9) (n := 7) dX9_power_9 ?_
  refine sm_if_le (pc := 11) (tgt := 49) dX9_power_11 (by decide) ?_ ?_
  · skip
    refine sm_lload_n (pc := 49) (n := 3) dX9_power_49 rfl ?_
    refine sm_l2i (pc := 50) dX9_power_50 ?_
    exact sm_ireturn (pc := 51) dX9_power_51 rfl
  · skip
    refine sm_iload (pc := 14) (n := 7) dX9_power_14 ?_
    refine sm_iconst (pc := 16) dX9_power_16 zc_i_1 ?_
    refine sm_iand (pc := 17) dX9_power_17 ?_
    refine sm_iconst (pc := 18) dX9_power_18 zc_i_1 ?_
    refine sm_join (pc := 19) (pc' := 30) ?_ (fun j30 hj30 => ?_)
    · skip
      refine sm_lload (pc := 30) (n := 5) dX9_power_30 ?_
      refine sm_lload (pc := 32) (n := 5) dX9_power_32 ?_
      refine sm_lmul (pc := 34) dX9_power_34 ?_
      refine sm_iload_n (pc := 35) (n := 2) dX9_power_35 rfl ?_
      refine sm_i2l (pc := 36) dX9_power_36 ?_
      refine sm_lrem (pc := 37) dX9_power_37 ?_
      refine sm_lstore (pc := 38) (n := 5) dX9_power_38 ?_
      refine sm_iload (pc := 40) (n := 7) dX9_power_40 ?_
      refine sm_iconst (pc := 42) dX9_power_42 zc_i_1 ?_
      refine sm_ishr (pc := 43) dX9_power_43 ?_
      refine sm_istore (pc := 44) (n := 7) dX9_power_44 ?_
      refine sm_goto (pc := 46) (tgt := 9) dX9_power_46 (by decide) ?_
      exact hr9
    refine sm_icmp_ne (pc := 19) (tgt := 30) dX9_power_19 (by decide) ?_ ?_
    · skip
      exact hj30
    · skip
      refine sm_lload_n (pc := 22) (n := 3) dX9_power_22 rfl ?_
      refine sm_lload (pc := 23) (n := 5) dX9_power_23 ?_
      refine sm_lmul (pc := 25) dX9_power_25 ?_
      refine sm_iload_n (pc := 26) (n := 2) dX9_power_26 rfl ?_
      refine sm_i2l (pc := 27) dX9_power_27 ?_
      refine sm_lrem (pc := 28) dX9_power_28 ?_
      refine sm_lstore_n (pc := 29) (n := 3) dX9_power_29 rfl ?_
      exact hj30
noncomputable def f_X9_power {d : Nat} : List zV → zH d → zP d → Bool := zfn 8 b_X9_power
theorem m_X9_power {d : Nat} : zMet (d := d) X_X9_power yX9_power 1 f_X9_power := zmet_mk (X := X_X9_power) (by decide) rfl rfl s_X9_power

abbrev X_X9_rankOf : zM := (RX9, cX9_rankOf, 9, (some .int), "rankOf")
noncomputable def b_X9_rankOf {d : Nat} (P : zP d) : zK d := (xpI 0 (xist 2 (xpI 0 (xist 3 (xloop (fun r4 => (xild 3 (xild 1 (xjoin (xild 2 (xiret P)) (fun j263 => (xcmp tge j263 (xild 2 (xild 1 (xcmp tge j263 (xild 2 (xist 4 (xloop (fun r17 => (xild 4 (xild 1 (xjoin (xild 4 (xild 1 (xjoin (xinc 3 1 r4) (fun j257 => (xcmp Nat.beq j257 (xpI 0 (xist 5 (xloop (fun r56 => (xild 5 (xild 1 (xcmp tge (xald 0 (xgfR 25 34 (xpI 16 (xild 2 (xbin zmul (xild 3 (xbin zadd (xald1 0 (xald 0 (xgfI 25 1 (xpI 2 (xbin zsub (xald 0 (xgfI 25 1 (xcS 3 0 0 f_X9_power (xist 5 (xild 2 (xpI 1 (xbin zadd (xist 6 (xloop (fun r153 => (xild 6 (xild 1 (xcmp tge (xinc 2 1 j257) (xald 0 (xgfR 25 34 (xpI 16 (xild 6 (xbin zmul (xild 3 (xbin zadd (xald1 0 (xild 5 (xbin zmul (xald 0 (xgfI 25 1 (xbinN zrem (xist 7 (xild 3 (xist 8 (xloop (fun r184 => (xild 8 (xild 1 (xcmp tge (xinc 6 1 r153) (xald 0 (xgfR 25 34 (xpI 16 (xild 6 (xbin zmul (xild 8 (xbin zadd (xald 0 (xgfR 25 34 (xpI 16 (xild 6 (xbin zmul (xild 8 (xbin zadd (xald1 0 (xald 0 (xgfI 25 1 (xild 7 (xbin zsub (xald 0 (xgfR 25 34 (xpI 16 (xild 2 (xbin zmul (xild 8 (xbin zadd (xald1 0 (xbin zmul (xbin zadd (xald 0 (xgfI 25 1 (xbinN zrem (xast1 0 (fun v => v) (xinc 8 1 r184)))))))))))))))))))))))))))))))))))))) 100000))))))))))))))))))))) 100000))))))))))))))))))))) (xald 0 (xgfR 25 34 (xpI 16 (xild 4 (xbin zmul (xild 5 (xbin zadd (xald1 0 (xist 6 (xald 0 (xgfR 25 34 (xpI 16 (xild 4 (xbin zmul (xild 5 (xbin zadd (xald 0 (xgfR 25 34 (xpI 16 (xild 2 (xbin zmul (xild 5 (xbin zadd (xald1 0 (xast1 0 (fun v => v) (xald 0 (xgfR 25 34 (xpI 16 (xild 2 (xbin zmul (xild 5 (xbin zadd (xild 6 (xast1 0 (fun v => v) (xinc 5 1 r56))))))))))))))))))))))))))))))))))))))) 100000)))))))) (fun j44 => (xcmp tge j44 (xald 0 (xgfR 25 34 (xpI 16 (xild 4 (xbin zmul (xild 3 (xbin zadd (xald1 0 (xif0 t0eq (xinc 4 1 r17) j44))))))))))))))) 100000)))))))))))) 100000)))))
set_option maxRecDepth 100000 in
set_option maxHeartbeats 4000000 in
theorem s_X9_rankOf {d : Nat} (P : zP d) : zSim X_X9_rankOf 2 P 0 (b_X9_rankOf P) := by
  unfold b_X9_rankOf
  refine sm_iconst (pc := 0) dX9_rankOf_0 zc_i_0 ?_
  refine sm_istore_n (pc := 1) (n := 2) dX9_rankOf_1 rfl ?_
  refine sm_iconst (pc := 2) dX9_rankOf_2 zc_i_0 ?_
  refine sm_istore_n (pc := 3) (n := 3) dX9_rankOf_3 rfl ?_
  refine sm_loop (fun r4 hr4 => ?_) _
  refine sm_iload_n (pc := 4) (n := 3) dX9_rankOf_4 rfl ?_
  refine sm_iload_n (pc := 5) (n := 1) dX9_rankOf_5 rfl ?_
  refine sm_join (pc := 6) (pc' := 263) ?_ (fun j263 hj263 => ?_)
  · skip
    refine sm_iload_n (pc := 263) (n := 2) dX9_rankOf_263 rfl ?_
    exact sm_ireturn (pc := 264) dX9_rankOf_264 rfl
  refine sm_icmp_ge (pc := 6) (tgt := 263) dX9_rankOf_6 (by decide) ?_ ?_
  · skip
    exact hj263
  · skip
    refine sm_iload_n (pc := 9) (n := 2) dX9_rankOf_9 rfl ?_
    refine sm_iload_n (pc := 10) (n := 1) dX9_rankOf_10 rfl ?_
    refine sm_icmp_ge (pc := 11) (tgt := 263) dX9_rankOf_11 (by decide) ?_ ?_
    · skip
      exact hj263
    · skip
      refine sm_iload_n (pc := 14) (n := 2) dX9_rankOf_14 rfl ?_
      refine sm_istore (pc := 15) (n := 4) dX9_rankOf_15 ?_
      refine sm_loop (fun r17 hr17 => ?_) _
      refine sm_iload (pc := 17) (n := 4) dX9_rankOf_17 ?_
      refine sm_iload_n (pc := 19) (n := 1) dX9_rankOf_19 rfl ?_
      refine sm_join (pc := 20) (pc' := 44) ?_ (fun j44 hj44 => ?_)
      · skip
        refine sm_iload (pc := 44) (n := 4) dX9_rankOf_44 ?_
        refine sm_iload_n (pc := 46) (n := 1) dX9_rankOf_46 rfl ?_
        refine sm_join (pc := 47) (pc' := 257) ?_ (fun j257 hj257 => ?_)
        · skip
          refine sm_iinc (pc := 257) (n := 3) dX9_rankOf_257 zc_i_1 ?_
          refine sm_goto (pc := 260) (tgt := 4) dX9_rankOf_260 (by decide) ?_
          exact hr4
        refine sm_icmp_ne (pc := 47) (tgt := 53) dX9_rankOf_47 (by decide) ?_ ?_
        · skip
          refine sm_iconst (pc := 53) dX9_rankOf_53 zc_i_0 ?_
          refine sm_istore (pc := 54) (n := 5) dX9_rankOf_54 ?_
          refine sm_loop (fun r56 hr56 => ?_) _
          refine sm_iload (pc := 56) (n := 5) dX9_rankOf_56 ?_
          refine sm_iload_n (pc := 58) (n := 1) dX9_rankOf_58 rfl ?_
          refine sm_icmp_ge (pc := 59) (tgt := 122) dX9_rankOf_59 (by decide) ?_ ?_
          · skip
            refine sm_aload_n (pc := 122) (n := 0) dX9_rankOf_122 rfl ?_
            refine sm_getfieldR (pc := 123) (ci := 9) (n := 34) (C := RX9) (T := TX9) (N := 63) rfl rfl inz9 rfl (by decide) rfl wd_1052 rfl dX9_rankOf_123 ?_
            refine sm_bipush (pc := 126) dX9_rankOf_126 zc_b_16 ?_
            refine sm_iload_n (pc := 128) (n := 2) dX9_rankOf_128 rfl ?_
            refine sm_imul (pc := 129) dX9_rankOf_129 ?_
            refine sm_iload_n (pc := 130) (n := 3) dX9_rankOf_130 rfl ?_
            refine sm_iadd (pc := 131) dX9_rankOf_131 ?_
            refine sm_iaload (pc := 132) dX9_rankOf_132 ?_
            refine sm_aload_n (pc := 133) (n := 0) dX9_rankOf_133 rfl ?_
            refine sm_getfieldI (pc := 134) (ci := 9) (n := 1) (C := RX9) (T := TX9) (N := 63) rfl rfl inz9 rfl (by decide) rfl wd_1019 rfl dX9_rankOf_134 ?_
            refine sm_iconst (pc := 137) dX9_rankOf_137 zc_i_2 ?_
            refine sm_isub (pc := 138) dX9_rankOf_138 ?_
            refine sm_aload_n (pc := 139) (n := 0) dX9_rankOf_139 rfl ?_
            refine sm_getfieldI (pc := 140) (ci := 9) (n := 1) (C := RX9) (T := TX9) (N := 63) rfl rfl inz9 rfl (by decide) rfl wd_1019 rfl dX9_rankOf_140 ?_
            refine sm_cS (pc := 143) (n := 3) (mc := 0) (ms := 0) m_X9_power (zrunS (n := 3) wd_994 wd_14 wd_992 wd_993 (by decide) (by decide) (by decide) dX9_rankOf_143) ?_
            refine sm_istore (pc := 146) (n := 5) dX9_rankOf_146 ?_
            refine sm_iload_n (pc := 148) (n := 2) dX9_rankOf_148 rfl ?_
            refine sm_iconst (pc := 149) dX9_rankOf_149 zc_i_1 ?_
            refine sm_iadd (pc := 150) dX9_rankOf_150 ?_
            refine sm_istore (pc := 151) (n := 6) dX9_rankOf_151 ?_
            refine sm_loop (fun r153 hr153 => ?_) _
            refine sm_iload (pc := 153) (n := 6) dX9_rankOf_153 ?_
            refine sm_iload_n (pc := 155) (n := 1) dX9_rankOf_155 rfl ?_
            refine sm_icmp_ge (pc := 156) (tgt := 254) dX9_rankOf_156 (by decide) ?_ ?_
            · skip
              refine sm_iinc (pc := 254) (n := 2) dX9_rankOf_254 zc_i_1 ?_
              exact hj257
            · skip
              refine sm_aload_n (pc := 159) (n := 0) dX9_rankOf_159 rfl ?_
              refine sm_getfieldR (pc := 160) (ci := 9) (n := 34) (C := RX9) (T := TX9) (N := 63) rfl rfl inz9 rfl (by decide) rfl wd_1052 rfl dX9_rankOf_160 ?_
              refine sm_bipush (pc := 163) dX9_rankOf_163 zc_b_16 ?_
              refine sm_iload (pc := 165) (n := 6) dX9_rankOf_165 ?_
              refine sm_imul (pc := 167) dX9_rankOf_167 ?_
              refine sm_iload_n (pc := 168) (n := 3) dX9_rankOf_168 rfl ?_
              refine sm_iadd (pc := 169) dX9_rankOf_169 ?_
              refine sm_iaload (pc := 170) dX9_rankOf_170 ?_
              refine sm_iload (pc := 171) (n := 5) dX9_rankOf_171 ?_
              refine sm_imul (pc := 173) dX9_rankOf_173 ?_
              refine sm_aload_n (pc := 174) (n := 0) dX9_rankOf_174 rfl ?_
              refine sm_getfieldI (pc := 175) (ci := 9) (n := 1) (C := RX9) (T := TX9) (N := 63) rfl rfl inz9 rfl (by decide) rfl wd_1019 rfl dX9_rankOf_175 ?_
              refine sm_irem (pc := 178) dX9_rankOf_178 ?_
              refine sm_istore (pc := 179) (n := 7) dX9_rankOf_179 ?_
              refine sm_iload_n (pc := 181) (n := 3) dX9_rankOf_181 rfl ?_
              refine sm_istore (pc := 182) (n := 8) dX9_rankOf_182 ?_
              refine sm_loop (fun r184 hr184 => ?_) _
              refine sm_iload (pc := 184) (n := 8) dX9_rankOf_184 ?_
              refine sm_iload_n (pc := 186) (n := 1) dX9_rankOf_186 rfl ?_
              refine sm_icmp_ge (pc := 187) (tgt := 248) dX9_rankOf_187 (by decide) ?_ ?_
              · skip
                refine sm_iinc (pc := 248) (n := 6) dX9_rankOf_248 zc_i_1 ?_
                refine sm_goto (pc := 251) (tgt := 153) dX9_rankOf_251 (by decide) ?_
                exact hr153
              · skip
                refine sm_aload_n (pc := 190) (n := 0) dX9_rankOf_190 rfl ?_
                refine sm_getfieldR (pc := 191) (ci := 9) (n := 34) (C := RX9) (T := TX9) (N := 63) rfl rfl inz9 rfl (by decide) rfl wd_1052 rfl dX9_rankOf_191 ?_
                refine sm_bipush (pc := 194) dX9_rankOf_194 zc_b_16 ?_
                refine sm_iload (pc := 196) (n := 6) dX9_rankOf_196 ?_
                refine sm_imul (pc := 198) dX9_rankOf_198 ?_
                refine sm_iload (pc := 199) (n := 8) dX9_rankOf_199 ?_
                refine sm_iadd (pc := 201) dX9_rankOf_201 ?_
                refine sm_aload_n (pc := 202) (n := 0) dX9_rankOf_202 rfl ?_
                refine sm_getfieldR (pc := 203) (ci := 9) (n := 34) (C := RX9) (T := TX9) (N := 63) rfl rfl inz9 rfl (by decide) rfl wd_1052 rfl dX9_rankOf_203 ?_
                refine sm_bipush (pc := 206) dX9_rankOf_206 zc_b_16 ?_
                refine sm_iload (pc := 208) (n := 6) dX9_rankOf_208 ?_
                refine sm_imul (pc := 210) dX9_rankOf_210 ?_
                refine sm_iload (pc := 211) (n := 8) dX9_rankOf_211 ?_
                refine sm_iadd (pc := 213) dX9_rankOf_213 ?_
                refine sm_iaload (pc := 214) dX9_rankOf_214 ?_
                refine sm_aload_n (pc := 215) (n := 0) dX9_rankOf_215 rfl ?_
                refine sm_getfieldI (pc := 216) (ci := 9) (n := 1) (C := RX9) (T := TX9) (N := 63) rfl rfl inz9 rfl (by decide) rfl wd_1019 rfl dX9_rankOf_216 ?_
                refine sm_iload (pc := 219) (n := 7) dX9_rankOf_219 ?_
                refine sm_isub (pc := 221) dX9_rankOf_221 ?_
                refine sm_aload_n (pc := 222) (n := 0) dX9_rankOf_222 rfl ?_
                refine sm_getfieldR (pc := 223) (ci := 9) (n := 34) (C := RX9) (T := TX9) (N := 63) rfl rfl inz9 rfl (by decide) rfl wd_1052 rfl dX9_rankOf_223 ?_
                refine sm_bipush (pc := 226) dX9_rankOf_226 zc_b_16 ?_
                refine sm_iload_n (pc := 228) (n := 2) dX9_rankOf_228 rfl ?_
                refine sm_imul (pc := 229) dX9_rankOf_229 ?_
                refine sm_iload (pc := 230) (n := 8) dX9_rankOf_230 ?_
                refine sm_iadd (pc := 232) dX9_rankOf_232 ?_
                refine sm_iaload (pc := 233) dX9_rankOf_233 ?_
                refine sm_imul (pc := 234) dX9_rankOf_234 ?_
                refine sm_iadd (pc := 235) dX9_rankOf_235 ?_
                refine sm_aload_n (pc := 236) (n := 0) dX9_rankOf_236 rfl ?_
                refine sm_getfieldI (pc := 237) (ci := 9) (n := 1) (C := RX9) (T := TX9) (N := 63) rfl rfl inz9 rfl (by decide) rfl wd_1019 rfl dX9_rankOf_237 ?_
                refine sm_irem (pc := 240) dX9_rankOf_240 ?_
                refine sm_iastore (pc := 241) dX9_rankOf_241 ?_
                refine sm_iinc (pc := 242) (n := 8) dX9_rankOf_242 zc_i_1 ?_
                refine sm_goto (pc := 245) (tgt := 184) dX9_rankOf_245 (by decide) ?_
                exact hr184
          · skip
            refine sm_aload_n (pc := 62) (n := 0) dX9_rankOf_62 rfl ?_
            refine sm_getfieldR (pc := 63) (ci := 9) (n := 34) (C := RX9) (T := TX9) (N := 63) rfl rfl inz9 rfl (by decide) rfl wd_1052 rfl dX9_rankOf_63 ?_
            refine sm_bipush (pc := 66) dX9_rankOf_66 zc_b_16 ?_
            refine sm_iload (pc := 68) (n := 4) dX9_rankOf_68 ?_
            refine sm_imul (pc := 70) dX9_rankOf_70 ?_
            refine sm_iload (pc := 71) (n := 5) dX9_rankOf_71 ?_
            refine sm_iadd (pc := 73) dX9_rankOf_73 ?_
            refine sm_iaload (pc := 74) dX9_rankOf_74 ?_
            refine sm_istore (pc := 75) (n := 6) dX9_rankOf_75 ?_
            refine sm_aload_n (pc := 77) (n := 0) dX9_rankOf_77 rfl ?_
            refine sm_getfieldR (pc := 78) (ci := 9) (n := 34) (C := RX9) (T := TX9) (N := 63) rfl rfl inz9 rfl (by decide) rfl wd_1052 rfl dX9_rankOf_78 ?_
            refine sm_bipush (pc := 81) dX9_rankOf_81 zc_b_16 ?_
            refine sm_iload (pc := 83) (n := 4) dX9_rankOf_83 ?_
            refine sm_imul (pc := 85) dX9_rankOf_85 ?_
            refine sm_iload (pc := 86) (n := 5) dX9_rankOf_86 ?_
            refine sm_iadd (pc := 88) dX9_rankOf_88 ?_
            refine sm_aload_n (pc := 89) (n := 0) dX9_rankOf_89 rfl ?_
            refine sm_getfieldR (pc := 90) (ci := 9) (n := 34) (C := RX9) (T := TX9) (N := 63) rfl rfl inz9 rfl (by decide) rfl wd_1052 rfl dX9_rankOf_90 ?_
            refine sm_bipush (pc := 93) dX9_rankOf_93 zc_b_16 ?_
            refine sm_iload_n (pc := 95) (n := 2) dX9_rankOf_95 rfl ?_
            refine sm_imul (pc := 96) dX9_rankOf_96 ?_
            refine sm_iload (pc := 97) (n := 5) dX9_rankOf_97 ?_
            refine sm_iadd (pc := 99) dX9_rankOf_99 ?_
            refine sm_iaload (pc := 100) dX9_rankOf_100 ?_
            refine sm_iastore (pc := 101) dX9_rankOf_101 ?_
            refine sm_aload_n (pc := 102) (n := 0) dX9_rankOf_102 rfl ?_
            refine sm_getfieldR (pc := 103) (ci := 9) (n := 34) (C := RX9) (T := TX9) (N := 63) rfl rfl inz9 rfl (by decide) rfl wd_1052 rfl dX9_rankOf_103 ?_
            refine sm_bipush (pc := 106) dX9_rankOf_106 zc_b_16 ?_
            refine sm_iload_n (pc := 108) (n := 2) dX9_rankOf_108 rfl ?_
            refine sm_imul (pc := 109) dX9_rankOf_109 ?_
            refine sm_iload (pc := 110) (n := 5) dX9_rankOf_110 ?_
            refine sm_iadd (pc := 112) dX9_rankOf_112 ?_
            refine sm_iload (pc := 113) (n := 6) dX9_rankOf_113 ?_
            refine sm_iastore (pc := 115) dX9_rankOf_115 ?_
            refine sm_iinc (pc := 116) (n := 5) dX9_rankOf_116 zc_i_1 ?_
            refine sm_goto (pc := 119) (tgt := 56) dX9_rankOf_119 (by decide) ?_
            exact hr56
        · skip
          refine sm_goto (pc := 50) (tgt := 257) dX9_rankOf_50 (by decide) ?_
          exact hj257
      refine sm_icmp_ge (pc := 20) (tgt := 44) dX9_rankOf_20 (by decide) ?_ ?_
      · skip
        exact hj44
      · skip
        refine sm_aload_n (pc := 23) (n := 0) dX9_rankOf_23 rfl ?_
        refine sm_getfieldR (pc := 24) (ci := 9) (n := 34) (C := RX9) (T := TX9) (N := 63) rfl rfl inz9 rfl (by decide) rfl wd_1052 rfl dX9_rankOf_24 ?_
        refine sm_bipush (pc := 27) dX9_rankOf_27 zc_b_16 ?_
        refine sm_iload (pc := 29) (n := 4) dX9_rankOf_29 ?_
        refine sm_imul (pc := 31) dX9_rankOf_31 ?_
        refine sm_iload_n (pc := 32) (n := 3) dX9_rankOf_32 rfl ?_
        refine sm_iadd (pc := 33) dX9_rankOf_33 ?_
        refine sm_iaload (pc := 34) dX9_rankOf_34 ?_
        refine sm_if_ne (pc := 35) (tgt := 44) dX9_rankOf_35 (by decide) ?_ ?_
        · skip
          exact hj44
        · skip
          refine sm_iinc (pc := 38) (n := 4) dX9_rankOf_38 zc_i_1 ?_
          refine sm_goto (pc := 41) (tgt := 17) dX9_rankOf_41 (by decide) ?_
          exact hr17
noncomputable def f_X9_rankOf {d : Nat} : List zV → zH d → zP d → Bool := zfn 9 b_X9_rankOf
theorem m_X9_rankOf {d : Nat} : zMet (d := d) X_X9_rankOf yX9_rankOf 2 f_X9_rankOf := zmet_mk (X := X_X9_rankOf) (by decide) rfl rfl s_X9_rankOf

abbrev X_X9_forms : zM := (RX9, cX9_forms, 5, none, "forms")
noncomputable def b_X9_forms {d : Nat} (P : zP d) : zK d := (xald 0 (xild 1 (xcV 25 2 0 0 f_X9_begins (xpI 0 (xist 2 (xloop (fun r7 => (xild 2 (xald 0 (xgfR 25 21 (xild 1 (xald1 0 (xcmp tge (xald 0 (xgfR 25 36 (xild 1 (xald 0 (xald 0 (xgfR 25 21 (xild 1 (xald1 0 (xcV 25 2 0 0 f_X9_rankOf (xast1 0 (fun v => v) (xvret P))))))))))) (xpI 0 (xist 3 (xloop (fun r19 => (xild 3 (xald 0 (xgfR 25 21 (xild 1 (xald1 0 (xcmp tge (xinc 2 1 r7) (xald 0 (xald 0 (xgfR 25 29 (xild 2 (xald 0 (xgfR 25 29 (xild 3 (xcV 25 5 0 0 f_X9_form (xist 4 (xald 0 (xgfR 25 35 (xpI 256 (xild 1 (xbin zmul (xpI 16 (xild 2 (xbin zmul (xbin zadd (xild 3 (xbin zadd (xild 4 (xast1 0 (fun v => v) (xald 0 (xgfR 25 34 (xpI 16 (xild 2 (xbin zmul (xild 3 (xbin zadd (xild 4 (xald 0 (xgfI 25 1 (xbinN zrem (xald 0 (xgfI 25 1 (xbin zadd (xald 0 (xgfI 25 1 (xbinN zrem (xast1 0 (fun v => v) (xinc 3 1 r19)))))))))))))))))))))))))))))))))))))))))))))))) 100000)))))))))) 100000))))))
set_option maxRecDepth 100000 in
set_option maxHeartbeats 4000000 in
theorem s_X9_forms {d : Nat} (P : zP d) : zSim X_X9_forms 19 P 0 (b_X9_forms P) := by
  unfold b_X9_forms
  refine sm_aload_n (pc := 0) (n := 0) dX9_forms_0 rfl ?_
  refine sm_iload_n (pc := 1) (n := 1) dX9_forms_1 rfl ?_
  refine sm_cV (pc := 2) (ci := 9) (n := 2) (mc := 0) (ms := 0) rfl m_X9_begins (zrunV (n := 1) (ci := 9) rfl rfl wd_967 wd_14 wd_964 wd_966 ws_64 (by decide) (by decide) (by decide) dX9_forms_2) ?_
  refine sm_iconst (pc := 5) dX9_forms_5 zc_i_0 ?_
  refine sm_istore_n (pc := 6) (n := 2) dX9_forms_6 rfl ?_
  refine sm_loop (fun r7 hr7 => ?_) _
  refine sm_iload_n (pc := 7) (n := 2) dX9_forms_7 rfl ?_
  refine sm_aload_n (pc := 8) (n := 0) dX9_forms_8 rfl ?_
  refine sm_getfieldR (pc := 9) (ci := 9) (n := 21) (C := RX9) (T := TX9) (N := 63) rfl rfl inz9 rfl (by decide) rfl wd_1039 rfl dX9_forms_9 ?_
  refine sm_iload_n (pc := 12) (n := 1) dX9_forms_12 rfl ?_
  refine sm_iaload (pc := 13) dX9_forms_13 ?_
  refine sm_icmp_ge (pc := 14) (tgt := 104) dX9_forms_14 (by decide) ?_ ?_
  · skip
    refine sm_aload_n (pc := 104) (n := 0) dX9_forms_104 rfl ?_
    refine sm_getfieldR (pc := 105) (ci := 9) (n := 36) (C := RX9) (T := TX9) (N := 63) rfl rfl inz9 rfl (by decide) rfl wd_1054 rfl dX9_forms_105 ?_
    refine sm_iload_n (pc := 108) (n := 1) dX9_forms_108 rfl ?_
    refine sm_aload_n (pc := 109) (n := 0) dX9_forms_109 rfl ?_
    refine sm_aload_n (pc := 110) (n := 0) dX9_forms_110 rfl ?_
    refine sm_getfieldR (pc := 111) (ci := 9) (n := 21) (C := RX9) (T := TX9) (N := 63) rfl rfl inz9 rfl (by decide) rfl wd_1039 rfl dX9_forms_111 ?_
    refine sm_iload_n (pc := 114) (n := 1) dX9_forms_114 rfl ?_
    refine sm_iaload (pc := 115) dX9_forms_115 ?_
    refine sm_cV (pc := 116) (ci := 9) (n := 2) (mc := 0) (ms := 0) rfl m_X9_rankOf (zrunV (n := 1) (ci := 9) rfl rfl wd_991 wd_14 wd_988 wd_990 ws_70 (by decide) (by decide) (by decide) dX9_forms_116) ?_
    refine sm_iastore (pc := 119) dX9_forms_119 ?_
    exact sm_vreturn (pc := 120) dX9_forms_120 rfl
  · skip
    refine sm_iconst (pc := 17) dX9_forms_17 zc_i_0 ?_
    refine sm_istore_n (pc := 18) (n := 3) dX9_forms_18 rfl ?_
    refine sm_loop (fun r19 hr19 => ?_) _
    refine sm_iload_n (pc := 19) (n := 3) dX9_forms_19 rfl ?_
    refine sm_aload_n (pc := 20) (n := 0) dX9_forms_20 rfl ?_
    refine sm_getfieldR (pc := 21) (ci := 9) (n := 21) (C := RX9) (T := TX9) (N := 63) rfl rfl inz9 rfl (by decide) rfl wd_1039 rfl dX9_forms_21 ?_
    refine sm_iload_n (pc := 24) (n := 1) dX9_forms_24 rfl ?_
    refine sm_iaload (pc := 25) dX9_forms_25 ?_
    refine sm_icmp_ge (pc := 26) (tgt := 98) dX9_forms_26 (by decide) ?_ ?_
    · skip
      refine sm_iinc (pc := 98) (n := 2) dX9_forms_98 zc_i_1 ?_
      refine sm_goto (pc := 101) (tgt := 7) dX9_forms_101 (by decide) ?_
      exact hr7
    · skip
      refine sm_aload_n (pc := 29) (n := 0) dX9_forms_29 rfl ?_
      refine sm_aload_n (pc := 30) (n := 0) dX9_forms_30 rfl ?_
      refine sm_getfieldR (pc := 31) (ci := 9) (n := 29) (C := RX9) (T := TX9) (N := 63) rfl rfl inz9 rfl (by decide) rfl wd_1047 rfl dX9_forms_31 ?_
      refine sm_iload_n (pc := 34) (n := 2) dX9_forms_34 rfl ?_
      refine sm_aload_n (pc := 35) (n := 0) dX9_forms_35 rfl ?_
      refine sm_getfieldR (pc := 36) (ci := 9) (n := 29) (C := RX9) (T := TX9) (N := 63) rfl rfl inz9 rfl (by decide) rfl wd_1047 rfl dX9_forms_36 ?_
      refine sm_iload_n (pc := 39) (n := 3) dX9_forms_39 rfl ?_
      refine sm_cV (pc := 40) (ci := 9) (n := 5) (mc := 0) (ms := 0) rfl m_X9_form (zrunV (n := 4) (ci := 9) rfl rfl wd_987 wd_14 wd_984 wd_986 ws_69 (by decide) (by decide) (by decide) dX9_forms_40) ?_
      refine sm_istore (pc := 43) (n := 4) dX9_forms_43 ?_
      refine sm_aload_n (pc := 45) (n := 0) dX9_forms_45 rfl ?_
      refine sm_getfieldR (pc := 46) (ci := 9) (n := 35) (C := RX9) (T := TX9) (N := 63) rfl rfl inz9 rfl (by decide) rfl wd_1053 rfl dX9_forms_46 ?_
      refine sm_sipush (pc := 49) dX9_forms_49 zc_s_256 ?_
      refine sm_iload_n (pc := 52) (n := 1) dX9_forms_52 rfl ?_
      refine sm_imul (pc := 53) dX9_forms_53 ?_
      refine sm_bipush (pc := 54) dX9_forms_54 zc_b_16 ?_
      refine sm_iload_n (pc := 56) (n := 2) dX9_forms_56 rfl ?_
      refine sm_imul (pc := 57) dX9_forms_57 ?_
      refine sm_iadd (pc := 58) dX9_forms_58 ?_
      refine sm_iload_n (pc := 59) (n := 3) dX9_forms_59 rfl ?_
      refine sm_iadd (pc := 60) dX9_forms_60 ?_
      refine sm_iload (pc := 61) (n := 4) dX9_forms_61 ?_
      refine sm_iastore (pc := 63) dX9_forms_63 ?_
      refine sm_aload_n (pc := 64) (n := 0) dX9_forms_64 rfl ?_
      refine sm_getfieldR (pc := 65) (ci := 9) (n := 34) (C := RX9) (T := TX9) (N := 63) rfl rfl inz9 rfl (by decide) rfl wd_1052 rfl dX9_forms_65 ?_
      refine sm_bipush (pc := 68) dX9_forms_68 zc_b_16 ?_
      refine sm_iload_n (pc := 70) (n := 2) dX9_forms_70 rfl ?_
      refine sm_imul (pc := 71) dX9_forms_71 ?_
      refine sm_iload_n (pc := 72) (n := 3) dX9_forms_72 rfl ?_
      refine sm_iadd (pc := 73) dX9_forms_73 ?_
      refine sm_iload (pc := 74) (n := 4) dX9_forms_74 ?_
      refine sm_aload_n (pc := 76) (n := 0) dX9_forms_76 rfl ?_
      refine sm_getfieldI (pc := 77) (ci := 9) (n := 1) (C := RX9) (T := TX9) (N := 63) rfl rfl inz9 rfl (by decide) rfl wd_1019 rfl dX9_forms_77 ?_
      refine sm_irem (pc := 80) dX9_forms_80 ?_
      refine sm_aload_n (pc := 81) (n := 0) dX9_forms_81 rfl ?_
      refine sm_getfieldI (pc := 82) (ci := 9) (n := 1) (C := RX9) (T := TX9) (N := 63) rfl rfl inz9 rfl (by decide) rfl wd_1019 rfl dX9_forms_82 ?_
      refine sm_iadd (pc := 85) dX9_forms_85 ?_
      refine sm_aload_n (pc := 86) (n := 0) dX9_forms_86 rfl ?_
      refine sm_getfieldI (pc := 87) (ci := 9) (n := 1) (C := RX9) (T := TX9) (N := 63) rfl rfl inz9 rfl (by decide) rfl wd_1019 rfl dX9_forms_87 ?_
      refine sm_irem (pc := 90) dX9_forms_90 ?_
      refine sm_iastore (pc := 91) dX9_forms_91 ?_
      refine sm_iinc (pc := 92) (n := 3) dX9_forms_92 zc_i_1 ?_
      refine sm_goto (pc := 95) (tgt := 19) dX9_forms_95 (by decide) ?_
      exact hr19
noncomputable def f_X9_forms {d : Nat} : List zV → zH d → zP d → Bool := zfn 5 b_X9_forms
theorem m_X9_forms {d : Nat} : zMet (d := d) X_X9_forms yX9_forms 19 f_X9_forms := zmet_mk (X := X_X9_forms) (by decide) rfl rfl s_X9_forms

abbrev X_X9_moves : zM := (RX9, cX9_moves, 7, none, "moves")
noncomputable def b_X9_moves {d : Nat} (P : zP d) : zK d := (xpI 1 (xist 3 (xpI 0 (xist 4 (xloop (fun r5 => (xild 4 (xald 0 (xgfR 25 4 (xild 1 (xald1 0 (xcmp tge (xvret P) (xald 0 (xild 1 (xild 4 (xcV 25 3 0 0 f_X9_partOf (xist 5 (xpI 0 (xist 6 (xloop (fun r28 => (xild 6 (xild 5 (xcmp tge (xild 3 (xild 5 (xbin zadd (xist 3 (xinc 4 1 r5))))) (xald 0 (xgfR 25 33 (xild 3 (xild 6 (xbin zadd (xild 3 (xild 6 (xild 2 (xbin zadd (xild 5 (xbinN zrem (xbin zadd (xast1 0 (fun v => v) (xinc 6 1 r28)))))))))))))))))) 100000))))))))))))))) 100000)))))
set_option maxRecDepth 100000 in
set_option maxHeartbeats 4000000 in
theorem s_X9_moves {d : Nat} (P : zP d) : zSim X_X9_moves 2 P 0 (b_X9_moves P) := by
  unfold b_X9_moves
  refine sm_iconst (pc := 0) dX9_moves_0 zc_i_1 ?_
  refine sm_istore_n (pc := 1) (n := 3) dX9_moves_1 rfl ?_
  refine sm_iconst (pc := 2) dX9_moves_2 zc_i_0 ?_
  refine sm_istore (pc := 3) (n := 4) dX9_moves_3 ?_
  refine sm_loop (fun r5 hr5 => ?_) _
  refine sm_iload (pc := 5) (n := 4) dX9_moves_5 ?_
  refine sm_aload_n (pc := 7) (n := 0) dX9_moves_7 rfl ?_
  refine sm_getfieldR (pc := 8) (ci := 9) (n := 4) (C := RX9) (T := TX9) (N := 63) rfl rfl inz9 rfl (by decide) rfl wd_1022 rfl dX9_moves_8 ?_
  refine sm_iload_n (pc := 11) (n := 1) dX9_moves_11 rfl ?_
  refine sm_iaload (pc := 12) dX9_moves_12 ?_
  refine sm_icmp_ge (pc := 13) (tgt := 70) dX9_moves_13 (by decide) ?_ ?_
  · skip
    exact sm_vreturn (pc := 70) dX9_moves_70 rfl
  · skip
    refine sm_aload_n (pc := 16) (n := 0) dX9_moves_16 rfl ?_
    refine sm_iload_n (pc := 17) (n := 1) dX9_moves_17 rfl ?_
    refine sm_iload (pc := 18) (n := 4) dX9_moves_18 ?_
    refine sm_cV (pc := 20) (ci := 9) (n := 3) (mc := 0) (ms := 0) rfl m_X9_partOf (zrunV (n := 2) (ci := 9) rfl rfl wd_925 wd_14 wd_922 wd_924 ws_56 (by decide) (by decide) (by decide) dX9_moves_20) ?_
    refine sm_istore (pc := 23) (n := 5) dX9_moves_23 ?_
    refine sm_iconst (pc := 25) dX9_moves_25 zc_i_0 ?_
    refine sm_istore (pc := 26) (n := 6) dX9_moves_26 ?_
    refine sm_loop (fun r28 hr28 => ?_) _
    refine sm_iload (pc := 28) (n := 6) dX9_moves_28 ?_
    refine sm_iload (pc := 30) (n := 5) dX9_moves_30 ?_
    refine sm_icmp_ge (pc := 32) (tgt := 59) dX9_moves_32 (by decide) ?_ ?_
    · skip
      refine sm_iload_n (pc := 59) (n := 3) dX9_moves_59 rfl ?_
      refine sm_iload (pc := 60) (n := 5) dX9_moves_60 ?_
      refine sm_iadd (pc := 62) dX9_moves_62 ?_
      refine sm_istore_n (pc := 63) (n := 3) dX9_moves_63 rfl ?_
      refine sm_iinc (pc := 64) (n := 4) dX9_moves_64 zc_i_1 ?_
      refine sm_goto (pc := 67) (tgt := 5) dX9_moves_67 (by decide) ?_
      exact hr5
    · skip
      refine sm_aload_n (pc := 35) (n := 0) dX9_moves_35 rfl ?_
      refine sm_getfieldR (pc := 36) (ci := 9) (n := 33) (C := RX9) (T := TX9) (N := 63) rfl rfl inz9 rfl (by decide) rfl wd_1051 rfl dX9_moves_36 ?_
      refine sm_iload_n (pc := 39) (n := 3) dX9_moves_39 rfl ?_
      refine sm_iload (pc := 40) (n := 6) dX9_moves_40 ?_
      refine sm_iadd (pc := 42) dX9_moves_42 ?_
      refine sm_iload_n (pc := 43) (n := 3) dX9_moves_43 rfl ?_
      refine sm_iload (pc := 44) (n := 6) dX9_moves_44 ?_
      refine sm_iload_n (pc := 46) (n := 2) dX9_moves_46 rfl ?_
      refine sm_iadd (pc := 47) dX9_moves_47 ?_
      refine sm_iload (pc := 48) (n := 5) dX9_moves_48 ?_
      refine sm_irem (pc := 50) dX9_moves_50 ?_
      refine sm_iadd (pc := 51) dX9_moves_51 ?_
      refine sm_iastore (pc := 52) dX9_moves_52 ?_
      refine sm_iinc (pc := 53) (n := 6) dX9_moves_53 zc_i_1 ?_
      refine sm_goto (pc := 56) (tgt := 28) dX9_moves_56 (by decide) ?_
      exact hr28
noncomputable def f_X9_moves {d : Nat} : List zV → zH d → zP d → Bool := zfn 7 b_X9_moves
theorem m_X9_moves {d : Nat} : zMet (d := d) X_X9_moves yX9_moves 2 f_X9_moves := zmet_mk (X := X_X9_moves) (by decide) rfl rfl s_X9_moves

abbrev X_X9_fixed : zM := (RX9, cX9_fixed, 6, (some .int), "fixed")
noncomputable def b_X9_fixed {d : Nat} (P : zP d) : zK d := (xald 0 (xild 1 (xild 2 (xcV 25 3 0 0 f_X9_moves (xald 0 (xald 0 (xgfR 25 30 (xcV 25 2 0 0 f_X9_sumsOf (xpI 0 (xist 3 (xloop (fun r16 => (xild 3 (xald 0 (xgfR 25 21 (xald 0 (xgfI 25 25 (xald1 0 (xcmp tge (xald 0 (xgfR 25 36 (xald 0 (xgfI 25 25 (xald1 0 (xald 0 (xald 0 (xgfR 25 21 (xald 0 (xgfI 25 25 (xald1 0 (xcV 25 2 0 0 f_X9_rankOf (xbin zsub (xiret P)))))))))))))) (xpI 0 (xist 4 (xloop (fun r32 => (xild 4 (xald 0 (xgfR 25 21 (xald 0 (xgfI 25 25 (xald1 0 (xcmp tge (xinc 3 1 r16) (xald 0 (xald 0 (xgfR 25 29 (xild 3 (xald 0 (xgfR 25 30 (xild 4 (xcV 25 5 0 0 f_X9_form (xald 0 (xgfR 25 35 (xpI 256 (xald 0 (xgfI 25 25 (xbin zmul (xpI 16 (xild 3 (xbin zmul (xbin zadd (xild 4 (xbin zadd (xald1 0 (xbin zsub (xist 5 (xald 0 (xgfR 25 34 (xpI 16 (xild 3 (xbin zmul (xild 4 (xbin zadd (xild 5 (xald 0 (xgfI 25 1 (xbinN zrem (xald 0 (xgfI 25 1 (xbin zadd (xald 0 (xgfI 25 1 (xbinN zrem (xast1 0 (fun v => v) (xinc 4 1 r32)))))))))))))))))))))))))))))))))))))))))))))))))) 100000))))))))))) 100000)))))))))))
set_option maxRecDepth 100000 in
set_option maxHeartbeats 4000000 in
theorem s_X9_fixed {d : Nat} (P : zP d) : zSim X_X9_fixed 18 P 0 (b_X9_fixed P) := by
  unfold b_X9_fixed
  refine sm_aload_n (pc := 0) (n := 0) dX9_fixed_0 rfl ?_
  refine sm_iload_n (pc := 1) (n := 1) dX9_fixed_1 rfl ?_
  refine sm_iload_n (pc := 2) (n := 2) dX9_fixed_2 rfl ?_
  refine sm_cV (pc := 3) (ci := 9) (n := 3) (mc := 0) (ms := 0) rfl m_X9_moves (zrunV (n := 2) (ci := 9) rfl rfl wd_1009 wd_14 wd_1006 wd_1008 ws_73 (by decide) (by decide) (by decide) dX9_fixed_3) ?_
  refine sm_aload_n (pc := 6) (n := 0) dX9_fixed_6 rfl ?_
  refine sm_aload_n (pc := 7) (n := 0) dX9_fixed_7 rfl ?_
  refine sm_getfieldR (pc := 8) (ci := 9) (n := 30) (C := RX9) (T := TX9) (N := 63) rfl rfl inz9 rfl (by decide) rfl wd_1048 rfl dX9_fixed_8 ?_
  refine sm_cV (pc := 11) (ci := 9) (n := 2) (mc := 0) (ms := 0) rfl m_X9_sumsOf (zrunV (n := 1) (ci := 9) rfl rfl wd_971 wd_14 wd_968 wd_970 ws_65 (by decide) (by decide) (by decide) dX9_fixed_11) ?_
  refine sm_iconst (pc := 14) dX9_fixed_14 zc_i_0 ?_
  refine sm_istore_n (pc := 15) (n := 3) dX9_fixed_15 rfl ?_
  refine sm_loop (fun r16 hr16 => ?_) _
  refine sm_iload_n (pc := 16) (n := 3) dX9_fixed_16 rfl ?_
  refine sm_aload_n (pc := 17) (n := 0) dX9_fixed_17 rfl ?_
  refine sm_getfieldR (pc := 18) (ci := 9) (n := 21) (C := RX9) (T := TX9) (N := 63) rfl rfl inz9 rfl (by decide) rfl wd_1039 rfl dX9_fixed_18 ?_
  refine sm_aload_n (pc := 21) (n := 0) dX9_fixed_21 rfl ?_
  refine sm_getfieldI (pc := 22) (ci := 9) (n := 25) (C := RX9) (T := TX9) (N := 63) rfl rfl inz9 rfl (by decide) rfl wd_1043 rfl dX9_fixed_22 ?_
  refine sm_iaload (pc := 25) dX9_fixed_25 ?_
  refine sm_icmp_ge (pc := 26) (tgt := 126) dX9_fixed_26 (by decide) ?_ ?_
  · skip
    refine sm_aload_n (pc := 126) (n := 0) dX9_fixed_126 rfl ?_
    refine sm_getfieldR (pc := 127) (ci := 9) (n := 36) (C := RX9) (T := TX9) (N := 63) rfl rfl inz9 rfl (by decide) rfl wd_1054 rfl dX9_fixed_127 ?_
    refine sm_aload_n (pc := 130) (n := 0) dX9_fixed_130 rfl ?_
    refine sm_getfieldI (pc := 131) (ci := 9) (n := 25) (C := RX9) (T := TX9) (N := 63) rfl rfl inz9 rfl (by decide) rfl wd_1043 rfl dX9_fixed_131 ?_
    refine sm_iaload (pc := 134) dX9_fixed_134 ?_
    refine sm_aload_n (pc := 135) (n := 0) dX9_fixed_135 rfl ?_
    refine sm_aload_n (pc := 136) (n := 0) dX9_fixed_136 rfl ?_
    refine sm_getfieldR (pc := 137) (ci := 9) (n := 21) (C := RX9) (T := TX9) (N := 63) rfl rfl inz9 rfl (by decide) rfl wd_1039 rfl dX9_fixed_137 ?_
    refine sm_aload_n (pc := 140) (n := 0) dX9_fixed_140 rfl ?_
    refine sm_getfieldI (pc := 141) (ci := 9) (n := 25) (C := RX9) (T := TX9) (N := 63) rfl rfl inz9 rfl (by decide) rfl wd_1043 rfl dX9_fixed_141 ?_
    refine sm_iaload (pc := 144) dX9_fixed_144 ?_
    refine sm_cV (pc := 145) (ci := 9) (n := 2) (mc := 0) (ms := 0) rfl m_X9_rankOf (zrunV (n := 1) (ci := 9) rfl rfl wd_991 wd_14 wd_988 wd_990 ws_70 (by decide) (by decide) (by decide) dX9_fixed_145) ?_
    refine sm_isub (pc := 148) dX9_fixed_148 ?_
    exact sm_ireturn (pc := 149) dX9_fixed_149 rfl
  · skip
    refine sm_iconst (pc := 29) dX9_fixed_29 zc_i_0 ?_
    refine sm_istore (pc := 30) (n := 4) dX9_fixed_30 ?_
    refine sm_loop (fun r32 hr32 => ?_) _
    refine sm_iload (pc := 32) (n := 4) dX9_fixed_32 ?_
    refine sm_aload_n (pc := 34) (n := 0) dX9_fixed_34 rfl ?_
    refine sm_getfieldR (pc := 35) (ci := 9) (n := 21) (C := RX9) (T := TX9) (N := 63) rfl rfl inz9 rfl (by decide) rfl wd_1039 rfl dX9_fixed_35 ?_
    refine sm_aload_n (pc := 38) (n := 0) dX9_fixed_38 rfl ?_
    refine sm_getfieldI (pc := 39) (ci := 9) (n := 25) (C := RX9) (T := TX9) (N := 63) rfl rfl inz9 rfl (by decide) rfl wd_1043 rfl dX9_fixed_39 ?_
    refine sm_iaload (pc := 42) dX9_fixed_42 ?_
    refine sm_icmp_ge (pc := 43) (tgt := 120) dX9_fixed_43 (by decide) ?_ ?_
    · skip
      refine sm_iinc (pc := 120) (n := 3) dX9_fixed_120 zc_i_1 ?_
      refine sm_goto (pc := 123) (tgt := 16) dX9_fixed_123 (by decide) ?_
      exact hr16
    · skip
      refine sm_aload_n (pc := 46) (n := 0) dX9_fixed_46 rfl ?_
      refine sm_aload_n (pc := 47) (n := 0) dX9_fixed_47 rfl ?_
      refine sm_getfieldR (pc := 48) (ci := 9) (n := 29) (C := RX9) (T := TX9) (N := 63) rfl rfl inz9 rfl (by decide) rfl wd_1047 rfl dX9_fixed_48 ?_
      refine sm_iload_n (pc := 51) (n := 3) dX9_fixed_51 rfl ?_
      refine sm_aload_n (pc := 52) (n := 0) dX9_fixed_52 rfl ?_
      refine sm_getfieldR (pc := 53) (ci := 9) (n := 30) (C := RX9) (T := TX9) (N := 63) rfl rfl inz9 rfl (by decide) rfl wd_1048 rfl dX9_fixed_53 ?_
      refine sm_iload (pc := 56) (n := 4) dX9_fixed_56 ?_
      refine sm_cV (pc := 58) (ci := 9) (n := 5) (mc := 0) (ms := 0) rfl m_X9_form (zrunV (n := 4) (ci := 9) rfl rfl wd_987 wd_14 wd_984 wd_986 ws_69 (by decide) (by decide) (by decide) dX9_fixed_58) ?_
      refine sm_aload_n (pc := 61) (n := 0) dX9_fixed_61 rfl ?_
      refine sm_getfieldR (pc := 62) (ci := 9) (n := 35) (C := RX9) (T := TX9) (N := 63) rfl rfl inz9 rfl (by decide) rfl wd_1053 rfl dX9_fixed_62 ?_
      refine sm_sipush (pc := 65) dX9_fixed_65 zc_s_256 ?_
      refine sm_aload_n (pc := 68) (n := 0) dX9_fixed_68 rfl ?_
      refine sm_getfieldI (pc := 69) (ci := 9) (n := 25) (C := RX9) (T := TX9) (N := 63) rfl rfl inz9 rfl (by decide) rfl wd_1043 rfl dX9_fixed_69 ?_
      refine sm_imul (pc := 72) dX9_fixed_72 ?_
      refine sm_bipush (pc := 73) dX9_fixed_73 zc_b_16 ?_
      refine sm_iload_n (pc := 75) (n := 3) dX9_fixed_75 rfl ?_
      refine sm_imul (pc := 76) dX9_fixed_76 ?_
      refine sm_iadd (pc := 77) dX9_fixed_77 ?_
      refine sm_iload (pc := 78) (n := 4) dX9_fixed_78 ?_
      refine sm_iadd (pc := 80) dX9_fixed_80 ?_
      refine sm_iaload (pc := 81) dX9_fixed_81 ?_
      refine sm_isub (pc := 82) dX9_fixed_82 ?_
      refine sm_istore (pc := 83) (n := 5) dX9_fixed_83 ?_
      refine sm_aload_n (pc := 85) (n := 0) dX9_fixed_85 rfl ?_
      refine sm_getfieldR (pc := 86) (ci := 9) (n := 34) (C := RX9) (T := TX9) (N := 63) rfl rfl inz9 rfl (by decide) rfl wd_1052 rfl dX9_fixed_86 ?_
      refine sm_bipush (pc := 89) dX9_fixed_89 zc_b_16 ?_
      refine sm_iload_n (pc := 91) (n := 3) dX9_fixed_91 rfl ?_
      refine sm_imul (pc := 92) dX9_fixed_92 ?_
      refine sm_iload (pc := 93) (n := 4) dX9_fixed_93 ?_
      refine sm_iadd (pc := 95) dX9_fixed_95 ?_
      refine sm_iload (pc := 96) (n := 5) dX9_fixed_96 ?_
      refine sm_aload_n (pc := 98) (n := 0) dX9_fixed_98 rfl ?_
      refine sm_getfieldI (pc := 99) (ci := 9) (n := 1) (C := RX9) (T := TX9) (N := 63) rfl rfl inz9 rfl (by decide) rfl wd_1019 rfl dX9_fixed_99 ?_
      refine sm_irem (pc := 102) dX9_fixed_102 ?_
      refine sm_aload_n (pc := 103) (n := 0) dX9_fixed_103 rfl ?_
      refine sm_getfieldI (pc := 104) (ci := 9) (n := 1) (C := RX9) (T := TX9) (N := 63) rfl rfl inz9 rfl (by decide) rfl wd_1019 rfl dX9_fixed_104 ?_
      refine sm_iadd (pc := 107) dX9_fixed_107 ?_
      refine sm_aload_n (pc := 108) (n := 0) dX9_fixed_108 rfl ?_
      refine sm_getfieldI (pc := 109) (ci := 9) (n := 1) (C := RX9) (T := TX9) (N := 63) rfl rfl inz9 rfl (by decide) rfl wd_1019 rfl dX9_fixed_109 ?_
      refine sm_irem (pc := 112) dX9_fixed_112 ?_
      refine sm_iastore (pc := 113) dX9_fixed_113 ?_
      refine sm_iinc (pc := 114) (n := 4) dX9_fixed_114 zc_i_1 ?_
      refine sm_goto (pc := 117) (tgt := 32) dX9_fixed_117 (by decide) ?_
      exact hr32
noncomputable def f_X9_fixed {d : Nat} : List zV → zH d → zP d → Bool := zfn 6 b_X9_fixed
theorem m_X9_fixed {d : Nat} : zMet (d := d) X_X9_fixed yX9_fixed 18 f_X9_fixed := zmet_mk (X := X_X9_fixed) (by decide) rfl rfl s_X9_fixed

abbrev X_X9_mobius : zM := (RX9, cX9_mobius, 1, (some .int), "mobius")
noncomputable def b_X9_mobius {d : Nat} (P : zP d) : zK d := (xild 0 (xpI 1 (xjoin (xiret P) (fun j25 => (xjoin (xpI 1 j25) (fun j11 => (xcmp Nat.beq j11 (xild 0 (xpI 6 (xcmp Nat.beq j11 (xild 0 (xpI 4 (xcmp Nat.beq (xpI 0 j25) (xpI 4294967295 j25))))))))))))))
set_option maxRecDepth 100000 in
set_option maxHeartbeats 4000000 in
theorem s_X9_mobius {d : Nat} (P : zP d) : zSim X_X9_mobius 1 P 0 (b_X9_mobius P) := by
  unfold b_X9_mobius
  refine sm_iload_n (pc := 0) (n := 0) dX9_mobius_0 rfl ?_
  refine sm_iconst (pc := 1) dX9_mobius_1 zc_i_1 ?_
  refine sm_join (pc := 2) (pc' := 25) ?_ (fun j25 hj25 => ?_)
  · skip
    exact sm_ireturn (pc := 25) dX9_mobius_25 rfl
  refine sm_join (pc := 2) (pc' := 11) ?_ (fun j11 hj11 => ?_)
  · skip
    refine sm_iconst (pc := 11) dX9_mobius_11 zc_i_1 ?_
    refine sm_goto (pc := 12) (tgt := 25) dX9_mobius_12 (by decide) ?_
    exact hj25
  refine sm_icmp_eq (pc := 2) (tgt := 11) dX9_mobius_2 (by decide) ?_ ?_
  · skip
    exact hj11
  · skip
    refine sm_iload_n (pc := 5) (n := 0) dX9_mobius_5 rfl ?_
    refine sm_bipush (pc := 6) dX9_mobius_6 zc_b_6 ?_
    refine sm_icmp_ne (pc := 8) (tgt := 15) dX9_mobius_8 (by decide) ?_ ?_
    · skip
      refine sm_iload_n (pc := 15) (n := 0) dX9_mobius_15 rfl ?_
      refine sm_iconst (pc := 16) dX9_mobius_16 zc_i_4 ?_
      refine sm_icmp_ne (pc := 17) (tgt := 24) dX9_mobius_17 (by decide) ?_ ?_
      · skip
        refine sm_iconst (pc := 24) dX9_mobius_24 zc_i_m1 ?_
        exact hj25
      · skip
        refine sm_iconst (pc := 20) dX9_mobius_20 zc_i_0 ?_
        refine sm_goto (pc := 21) (tgt := 25) dX9_mobius_21 (by decide) ?_
        exact hj25
    · skip
      exact hj11
noncomputable def f_X9_mobius {d : Nat} : List zV → zH d → zP d → Bool := zfn 1 b_X9_mobius
theorem m_X9_mobius {d : Nat} : zMet (d := d) X_X9_mobius yX9_mobius 1 f_X9_mobius := zmet_mk (X := X_X9_mobius) (by decide) rfl rfl s_X9_mobius

abbrev X_X9_units : zM := (RX9, cX9_units, 1, (some .int), "units")
noncomputable def b_X9_units {d : Nat} (P : zP d) : zK d := (xild 0 (xpI 3 (xjoin (xiret P) (fun j19 => (xcmp tge (xild 0 (xpI 5 (xcmp Nat.beq (xpI 4 j19) (xpI 2 j19)))) (xpI 1 j19))))))
set_option maxRecDepth 100000 in
set_option maxHeartbeats 4000000 in
theorem s_X9_units {d : Nat} (P : zP d) : zSim X_X9_units 1 P 0 (b_X9_units P) := by
  unfold b_X9_units
  refine sm_iload_n (pc := 0) (n := 0) dX9_units_0 rfl ?_
  refine sm_iconst (pc := 1) dX9_units_1 zc_i_3 ?_
  refine sm_join (pc := 2) (pc' := 19) ?_ (fun j19 hj19 => ?_)
  · skip
    exact sm_ireturn (pc := 19) dX9_units_19 rfl
  refine sm_icmp_ge (pc := 2) (tgt := 9) dX9_units_2 (by decide) ?_ ?_
  · skip
    refine sm_iload_n (pc := 9) (n := 0) dX9_units_9 rfl ?_
    refine sm_iconst (pc := 10) dX9_units_10 zc_i_5 ?_
    refine sm_icmp_ne (pc := 11) (tgt := 18) dX9_units_11 (by decide) ?_ ?_
    · skip
      refine sm_iconst (pc := 18) dX9_units_18 zc_i_2 ?_
      exact hj19
    · skip
      refine sm_iconst (pc := 14) dX9_units_14 zc_i_4 ?_
      refine sm_goto (pc := 15) (tgt := 19) dX9_units_15 (by decide) ?_
      exact hj19
  · skip
    refine sm_iconst (pc := 5) dX9_units_5 zc_i_1 ?_
    refine sm_goto (pc := 6) (tgt := 19) dX9_units_6 (by decide) ?_
    exact hj19
noncomputable def f_X9_units {d : Nat} : List zV → zH d → zP d → Bool := zfn 1 b_X9_units
theorem m_X9_units {d : Nat} : zMet (d := d) X_X9_units yX9_units 1 f_X9_units := zmet_mk (X := X_X9_units) (by decide) rfl rfl s_X9_units

abbrev X_X9_modularOf : zM := (RX9, cX9_modularOf, 6, (some .int), "modularOf")
noncomputable def b_X9_modularOf {d : Nat} (P : zP d) : zK d := (xpI 0 (xist 2 (xpI 1 (xist 3 (xloop (fun r4 => (xild 3 (xald 0 (xgfR 25 6 (xild 1 (xald1 0 (xcmp tle (xald 0 (xgfR 25 6 (xild 1 (xald1 0 (xild 3 (xbinN zrem (xjoin (xinc 3 1 r4) (fun j88 => (xif0 t0eq (xpI 0 (xist 4 (xpI 1 (xist 5 (xloop (fun r34 => (xild 5 (xild 3 (xcmp tle (xild 3 (xild 5 (xbinN zrem (xjoin (xinc 5 1 r34) (fun j67 => (xif0 t0eq (xild 4 (xild 3 (xild 5 (xbinN zdiv (xcS 1 0 0 f_X9_mobius (xald 0 (xild 1 (xild 5 (xcV 25 3 0 0 f_X9_fixed (xbin zmul (xbin zadd (xist 4 j67)))))))))))) j67)))))) (xild 2 (xild 4 (xild 3 (xcS 1 0 0 f_X9_units (xbinN zdiv (xild 3 (xcS 1 0 0 f_X9_mobius (xbin zmul (xbin zadd (xist 2 j88)))))))))))))) 100000))))) j88))))))))) (xild 2 (xiret P))))))))) 100000)))))
set_option maxRecDepth 100000 in
set_option maxHeartbeats 4000000 in
theorem s_X9_modularOf {d : Nat} (P : zP d) : zSim X_X9_modularOf 19 P 0 (b_X9_modularOf P) := by
  unfold b_X9_modularOf
  refine sm_iconst (pc := 0) dX9_modularOf_0 zc_i_0 ?_
  refine sm_istore_n (pc := 1) (n := 2) dX9_modularOf_1 rfl ?_
  refine sm_iconst (pc := 2) dX9_modularOf_2 zc_i_1 ?_
  refine sm_istore_n (pc := 3) (n := 3) dX9_modularOf_3 rfl ?_
  refine sm_loop (fun r4 hr4 => ?_) _
  refine sm_iload_n (pc := 4) (n := 3) dX9_modularOf_4 rfl ?_
  refine sm_aload_n (pc := 5) (n := 0) dX9_modularOf_5 rfl ?_
  refine sm_getfieldR (pc := 6) (ci := 9) (n := 6) (C := RX9) (T := TX9) (N := 63) rfl rfl inz9 rfl (by decide) rfl wd_1024 rfl dX9_modularOf_6 ?_
  refine sm_iload_n (pc := 9) (n := 1) dX9_modularOf_9 rfl ?_
  refine sm_iaload (pc := 10) dX9_modularOf_10 ?_
  refine sm_icmp_gt (pc := 11) (tgt := 94) dX9_modularOf_11 (by decide) ?_ ?_
  · skip
    refine sm_iload_n (pc := 94) (n := 2) dX9_modularOf_94 rfl ?_
    exact sm_ireturn (pc := 95) dX9_modularOf_95 rfl
  · skip
    refine sm_aload_n (pc := 14) (n := 0) dX9_modularOf_14 rfl ?_
    refine sm_getfieldR (pc := 15) (ci := 9) (n := 6) (C := RX9) (T := TX9) (N := 63) rfl rfl inz9 rfl (by decide) rfl wd_1024 rfl dX9_modularOf_15 ?_
    refine sm_iload_n (pc := 18) (n := 1) dX9_modularOf_18 rfl ?_
    refine sm_iaload (pc := 19) dX9_modularOf_19 ?_
    refine sm_iload_n (pc := 20) (n := 3) dX9_modularOf_20 rfl ?_
    refine sm_irem (pc := 21) dX9_modularOf_21 ?_
    refine sm_join (pc := 22) (pc' := 88) ?_ (fun j88 hj88 => ?_)
    · skip
      refine sm_iinc (pc := 88) (n := 3) dX9_modularOf_88 zc_i_1 ?_
      refine sm_goto (pc := 91) (tgt := 4) dX9_modularOf_91 (by decide) ?_
      exact hr4
    refine sm_if_eq (pc := 22) (tgt := 28) dX9_modularOf_22 (by decide) ?_ ?_
    · skip
      refine sm_iconst (pc := 28) dX9_modularOf_28 zc_i_0 ?_
      refine sm_istore (pc := 29) (n := 4) dX9_modularOf_29 ?_
      refine sm_iconst (pc := 31) dX9_modularOf_31 zc_i_1 ?_
      refine sm_istore (pc := 32) (n := 5) dX9_modularOf_32 ?_
      refine sm_loop (fun r34 hr34 => ?_) _
      refine sm_iload (pc := 34) (n := 5) dX9_modularOf_34 ?_
      refine sm_iload_n (pc := 36) (n := 3) dX9_modularOf_36 rfl ?_
      refine sm_icmp_gt (pc := 37) (tgt := 73) dX9_modularOf_37 (by decide) ?_ ?_
      · skip
        refine sm_iload_n (pc := 73) (n := 2) dX9_modularOf_73 rfl ?_
        refine sm_iload (pc := 74) (n := 4) dX9_modularOf_74 ?_
        refine sm_iload_n (pc := 76) (n := 3) dX9_modularOf_76 rfl ?_
        refine sm_cS (pc := 77) (n := 1) (mc := 0) (ms := 0) m_X9_units (zrunS (n := 1) wd_1012 wd_14 wd_1010 wd_1011 (by decide) (by decide) (by decide) dX9_modularOf_77) ?_
        refine sm_idiv (pc := 80) dX9_modularOf_80 ?_
        refine sm_iload_n (pc := 81) (n := 3) dX9_modularOf_81 rfl ?_
        refine sm_cS (pc := 82) (n := 1) (mc := 0) (ms := 0) m_X9_mobius (zrunS (n := 1) wd_1001 wd_14 wd_999 wd_1000 (by decide) (by decide) (by decide) dX9_modularOf_82) ?_
        refine sm_imul (pc := 85) dX9_modularOf_85 ?_
        refine sm_iadd (pc := 86) dX9_modularOf_86 ?_
        refine sm_istore_n (pc := 87) (n := 2) dX9_modularOf_87 rfl ?_
        exact hj88
      · skip
        refine sm_iload_n (pc := 40) (n := 3) dX9_modularOf_40 rfl ?_
        refine sm_iload (pc := 41) (n := 5) dX9_modularOf_41 ?_
        refine sm_irem (pc := 43) dX9_modularOf_43 ?_
        refine sm_join (pc := 44) (pc' := 67) ?_ (fun j67 hj67 => ?_)
        · skip
          refine sm_iinc (pc := 67) (n := 5) dX9_modularOf_67 zc_i_1 ?_
          refine sm_goto (pc := 70) (tgt := 34) dX9_modularOf_70 (by decide) ?_
          exact hr34
        refine sm_if_ne (pc := 44) (tgt := 67) dX9_modularOf_44 (by decide) ?_ ?_
        · skip
          exact hj67
        · skip
          refine sm_iload (pc := 47) (n := 4) dX9_modularOf_47 ?_
          refine sm_iload_n (pc := 49) (n := 3) dX9_modularOf_49 rfl ?_
          refine sm_iload (pc := 50) (n := 5) dX9_modularOf_50 ?_
          refine sm_idiv (pc := 52) dX9_modularOf_52 ?_
          refine sm_cS (pc := 53) (n := 1) (mc := 0) (ms := 0) m_X9_mobius (zrunS (n := 1) wd_1001 wd_14 wd_999 wd_1000 (by decide) (by decide) (by decide) dX9_modularOf_53) ?_
          refine sm_aload_n (pc := 56) (n := 0) dX9_modularOf_56 rfl ?_
          refine sm_iload_n (pc := 57) (n := 1) dX9_modularOf_57 rfl ?_
          refine sm_iload (pc := 58) (n := 5) dX9_modularOf_58 ?_
          refine sm_cV (pc := 60) (ci := 9) (n := 3) (mc := 0) (ms := 0) rfl m_X9_fixed (zrunV (n := 2) (ci := 9) rfl rfl wd_1005 wd_14 wd_1002 wd_1004 ws_72 (by decide) (by decide) (by decide) dX9_modularOf_60) ?_
          refine sm_imul (pc := 63) dX9_modularOf_63 ?_
          refine sm_iadd (pc := 64) dX9_modularOf_64 ?_
          refine sm_istore (pc := 65) (n := 4) dX9_modularOf_65 ?_
          exact hj67
    · skip
      refine sm_goto (pc := 25) (tgt := 88) dX9_modularOf_25 (by decide) ?_
      exact hj88
noncomputable def f_X9_modularOf {d : Nat} : List zV → zH d → zP d → Bool := zfn 6 b_X9_modularOf
theorem m_X9_modularOf {d : Nat} : zMet (d := d) X_X9_modularOf yX9_modularOf 19 f_X9_modularOf := zmet_mk (X := X_X9_modularOf) (by decide) rfl rfl s_X9_modularOf

abbrev X_X9_decomposes : zM := (RX9, cX9_decomposes, 8, none, "decomposes")
noncomputable def b_X9_decomposes {d : Nat} (P : zP d) : zK d := (xpI 0 (xist 1 (xpI 0 (xist 2 (xloop (fun r4 => (xild 2 (xald 0 (xgfI 25 2 (xcmp tge (xpI 0 (xist 2 (xloop (fun r136 => (xild 2 (xald 0 (xgfI 25 11 (xcmp tge (xpI 0 (xist 2 (xloop (fun r437 => (xild 2 (xald 0 (xgfI 25 2 (xcmp tge (xvret P) (xpI 0 (xist 3 (xloop (fun r447 => (xild 3 (xald 0 (xgfI 25 11 (xcmp tge (xinc 2 1 r437) (xald 0 (xgfR 25 39 (xpI 22 (xild 3 (xbin zmul (xpI 11 (xbin zadd (xild 2 (xbin zadd (xald1 0 (xist 4 (xald 0 (xgfR 25 38 (xpI 11 (xild 2 (xbin zmul (xild 3 (xbin zadd (xild 4 (xpI 16001 (xjoin (xast1 0 (fun v => v) (xinc 3 1 r447)) (fun j500 => (xcmp tle (xild 4 j500) (xild 4 (xpI 32003 (xbin zsub j500))))))))))))))))))))))))))))))) 100000)))))))) 100000))) (xild 2 (xist 3 (xloop (fun r146 => (xild 3 (xild 1 (xjoin (xpI 0 (xist 4 (xloop (fun r174 => (xild 4 (xpI 22 (xjoin (xald 0 (xgfR 25 39 (xpI 22 (xild 2 (xbin zmul (xild 2 (xbin zadd (xald1 0 (xpI 32001 (xpI 32003 (xcS 3 0 0 f_X9_power (xist 4 (xpI 0 (xist 5 (xloop (fun r269 => (xild 5 (xpI 22 (xcmp tge (xpI 0 (xist 5 (xloop (fun r319 => (xild 5 (xild 1 (xcmp tge (xinc 2 1 r136) (xald 0 (xgfR 25 39 (xpI 22 (xild 5 (xbin zmul (xild 2 (xbin zadd (xald1 0 (xist 6 (xild 5 (xild 2 (xjoin (xinc 5 1 r319) (fun j423 => (xcmp Nat.beq j423 (xild 6 (xif0 t0eq j423 (xpI 0 (xist 7 (xloop (fun r356 => (xild 7 (xpI 22 (xcmp tge j423 (xald 0 (xgfR 25 39 (xpI 22 (xild 5 (xbin zmul (xild 7 (xbin zadd (xald 0 (xgfR 25 39 (xpI 22 (xild 5 (xbin zmul (xild 7 (xbin zadd (xald1 0 (xi2l (xpI 32003 (xild 6 (xbin zsub (xi2l (xald 0 (xgfR 25 39 (xpI 22 (xild 2 (xbin zmul (xild 7 (xbin zadd (xald1 0 (xi2l (xbinj zmulj (xbinj zaddj (xpL 32003 (xbinjN zremj (xl2i (xast1 0 (fun v => v) (xinc 7 1 r356)))))))))))))))))))))))))))))))))))))))) 100000))))))))))))))))))))))) 100000))) (xald 0 (xgfR 25 39 (xpI 22 (xild 2 (xbin zmul (xild 5 (xbin zadd (xald 0 (xgfR 25 39 (xpI 22 (xild 2 (xbin zmul (xild 5 (xbin zadd (xald1 0 (xi2l (xild 4 (xi2l (xbinj zmulj (xpL 32003 (xbinjN zremj (xl2i (xast1 0 (fun v => v) (xinc 5 1 r269)))))))))))))))))))))))))))) 100000))))))))))))))) (fun j244 => (xcmp tge j244 (xild 3 (xild 1 (xcmp tge j244 (xald 0 (xgfR 25 39 (xpI 22 (xild 3 (xbin zmul (xild 4 (xbin zadd (xald1 0 (xist 5 (xald 0 (xgfR 25 39 (xpI 22 (xild 3 (xbin zmul (xild 4 (xbin zadd (xald 0 (xgfR 25 39 (xpI 22 (xild 2 (xbin zmul (xild 4 (xbin zadd (xald1 0 (xast1 0 (fun v => v) (xald 0 (xgfR 25 39 (xpI 22 (xild 2 (xbin zmul (xild 4 (xbin zadd (xild 5 (xast1 0 (fun v => v) (xinc 4 1 r174)))))))))))))))))))))))))))))))))))))))))))) 100000))) (fun j171 => (xcmp tge j171 (xald 0 (xgfR 25 39 (xpI 22 (xild 3 (xbin zmul (xild 2 (xbin zadd (xald1 0 (xif0 t0eq (xinc 3 1 r146) j171))))))))))))))) 100000)))))))) 100000))) (xald 0 (xgfR 25 8 (xild 2 (xald1 1 (xjoin (xinc 2 1 r4) (fun j128 => (xif0 t0eq j128 (xpI 0 (xist 3 (xloop (fun r26 => (xild 3 (xald 0 (xgfI 25 2 (xcmp tge (xinc 1 1 j128) (xald 0 (xgfR 25 7 (xild 3 (xald1 1 (xjoin (xald 0 (xgfR 25 39 (xpI 22 (xild 1 (xbin zmul (xpI 11 (xbin zadd (xild 3 (xbin zadd (xald 0 (xgfR 25 14 (xpI 11 (xild 3 (xbin zmul (xild 2 (xbin zadd (xald1 0 (xpI 32003 (xbinN zrem (xpI 32003 (xbin zadd (xpI 32003 (xbinN zrem (xast1 0 (fun v => v) (xinc 3 1 r26))))))))))))))))))))))))) (fun j82 => (xif0 t0eq j82 (xald 0 (xgfR 25 39 (xpI 22 (xild 1 (xbin zmul (xald 0 (xgfR 25 10 (xild 3 (xald1 0 (xbin zadd (xald 0 (xgfR 25 37 (xpI 11 (xild 3 (xbin zmul (xild 2 (xbin zadd (xald1 0 (xpI 32003 (xbinN zrem (xpI 32003 (xbin zadd (xpI 32003 (xbinN zrem (xast1 0 (fun v => v) j82))))))))))))))))))))))))))))))))))))) 100000))))))))))))))) 100000)))))
set_option maxRecDepth 100000 in
set_option maxHeartbeats 4000000 in
theorem s_X9_decomposes {d : Nat} (P : zP d) : zSim X_X9_decomposes 2 P 0 (b_X9_decomposes P) := by
  unfold b_X9_decomposes
  refine sm_iconst (pc := 0) dX9_decomposes_0 zc_i_0 ?_
  refine sm_istore_n (pc := 1) (n := 1) dX9_decomposes_1 rfl ?_
  refine sm_iconst (pc := 2) dX9_decomposes_2 zc_i_0 ?_
  refine sm_istore_n (pc := 3) (n := 2) dX9_decomposes_3 rfl ?_
  refine sm_loop (fun r4 hr4 => ?_) _
  refine sm_iload_n (pc := 4) (n := 2) dX9_decomposes_4 rfl ?_
  refine sm_aload_n (pc := 5) (n := 0) dX9_decomposes_5 rfl ?_
  refine sm_getfieldI (pc := 6) (ci := 9) (n := 2) (C := RX9) (T := TX9) (N := 63) rfl rfl inz9 rfl (by decide) rfl wd_1020 rfl dX9_decomposes_6 ?_
  refine sm_icmp_ge (pc := 9) (tgt := 134) dX9_decomposes_9 (by decide) ?_ ?_
  · skip
    refine sm_iconst (pc := 134) dX9_decomposes_134 zc_i_0 ?_
    refine sm_istore_n (pc := 135) (n := 2) dX9_decomposes_135 rfl ?_
    refine sm_loop (fun r136 hr136 => ?_) _
    refine sm_iload_n (pc := 136) (n := 2) dX9_decomposes_136 rfl ?_
    refine sm_aload_n (pc := 137) (n := 0) dX9_decomposes_137 rfl ?_
    refine sm_getfieldI (pc := 138) (ci := 9) (n := 11) (C := RX9) (T := TX9) (N := 63) rfl rfl inz9 rfl (by decide) rfl wd_1029 rfl dX9_decomposes_138 ?_
    refine sm_icmp_ge (pc := 141) (tgt := 435) dX9_decomposes_141 (by decide) ?_ ?_
    · skip
      refine sm_iconst (pc := 435) dX9_decomposes_435 zc_i_0 ?_
      refine sm_istore_n (pc := 436) (n := 2) dX9_decomposes_436 rfl ?_
      refine sm_loop (fun r437 hr437 => ?_) _
      refine sm_iload_n (pc := 437) (n := 2) dX9_decomposes_437 rfl ?_
      refine sm_aload_n (pc := 438) (n := 0) dX9_decomposes_438 rfl ?_
      refine sm_getfieldI (pc := 439) (ci := 9) (n := 2) (C := RX9) (T := TX9) (N := 63) rfl rfl inz9 rfl (by decide) rfl wd_1020 rfl dX9_decomposes_439 ?_
      refine sm_icmp_ge (pc := 442) (tgt := 513) dX9_decomposes_442 (by decide) ?_ ?_
      · skip
        exact sm_vreturn (pc := 513) dX9_decomposes_513 rfl
      · skip
        refine sm_iconst (pc := 445) dX9_decomposes_445 zc_i_0 ?_
        refine sm_istore_n (pc := 446) (n := 3) dX9_decomposes_446 rfl ?_
        refine sm_loop (fun r447 hr447 => ?_) _
        refine sm_iload_n (pc := 447) (n := 3) dX9_decomposes_447 rfl ?_
        refine sm_aload_n (pc := 448) (n := 0) dX9_decomposes_448 rfl ?_
        refine sm_getfieldI (pc := 449) (ci := 9) (n := 11) (C := RX9) (T := TX9) (N := 63) rfl rfl inz9 rfl (by decide) rfl wd_1029 rfl dX9_decomposes_449 ?_
        refine sm_icmp_ge (pc := 452) (tgt := 507) dX9_decomposes_452 (by decide) ?_ ?_
        · skip
          refine sm_iinc (pc := 507) (n := 2) dX9_decomposes_507 zc_i_1 ?_
          refine sm_goto (pc := 510) (tgt := 437) dX9_decomposes_510 (by decide) ?_
          exact hr437
        · skip
          refine sm_aload_n (pc := 455) (n := 0) dX9_decomposes_455 rfl ?_
          refine sm_getfieldR (pc := 456) (ci := 9) (n := 39) (C := RX9) (T := TX9) (N := 63) rfl rfl inz9 rfl (by decide) rfl wd_1057 rfl dX9_decomposes_456 ?_
          refine sm_bipush (pc := 459) dX9_decomposes_459 zc_b_22 ?_
          refine sm_iload_n (pc := 461) (n := 3) dX9_decomposes_461 rfl ?_
          refine sm_imul (pc := 462) dX9_decomposes_462 ?_
          refine sm_bipush (pc := 463) dX9_decomposes_463 zc_b_11 ?_
          refine sm_iadd (pc := 465) dX9_decomposes_465 ?_
          refine sm_iload_n (pc := 466) (n := 2) dX9_decomposes_466 rfl ?_
          refine sm_iadd (pc := 467) dX9_decomposes_467 ?_
          refine sm_iaload (pc := 468) dX9_decomposes_468 ?_
          refine sm_istore (pc := 469) (n := 4) dX9_decomposes_469 ?_
          refine sm_aload_n (pc := 471) (n := 0) dX9_decomposes_471 rfl ?_
          refine sm_getfieldR (pc := 472) (ci := 9) (n := 38) (C := RX9) (T := TX9) (N := 63) rfl rfl inz9 rfl (by decide) rfl wd_1056 rfl dX9_decomposes_472 ?_
          refine sm_bipush (pc := 475) dX9_decomposes_475 zc_b_11 ?_
          refine sm_iload_n (pc := 477) (n := 2) dX9_decomposes_477 rfl ?_
          refine sm_imul (pc := 478) dX9_decomposes_478 ?_
          refine sm_iload_n (pc := 479) (n := 3) dX9_decomposes_479 rfl ?_
          refine sm_iadd (pc := 480) dX9_decomposes_480 ?_
          refine sm_iload (pc := 481) (n := 4) dX9_decomposes_481 ?_
          refine sm_sipush (pc := 483) dX9_decomposes_483 zc_s_16001 ?_
          refine sm_join (pc := 486) (pc' := 500) ?_ (fun j500 hj500 => ?_)
          · skip
            refine sm_iastore (pc := 500) dX9_decomposes_500 ?_
            refine sm_iinc (pc := 501) (n := 3) dX9_decomposes_501 zc_i_1 ?_
            refine sm_goto (pc := 504) (tgt := 447) dX9_decomposes_504 (by decide) ?_
            exact hr447
          refine sm_icmp_le (pc := 486) (tgt := 498) dX9_decomposes_486 (by decide) ?_ ?_
          · skip
            refine sm_iload (pc := 498) (n := 4) dX9_decomposes_498 ?_
            exact hj500
          · skip
            refine sm_iload (pc := 489) (n := 4) dX9_decomposes_489 ?_
            refine sm_sipush (pc := 491) dX9_decomposes_491 zc_s_32003 ?_
            refine sm_isub (pc := 494) dX9_decomposes_494 ?_
            refine sm_goto (pc := 495) (tgt := 500) dX9_decomposes_495 (by decide) ?_
            exact hj500
    · skip
      refine sm_iload_n (pc := 144) (n := 2) dX9_decomposes_144 rfl ?_
      refine sm_istore_n (pc := 145) (n := 3) dX9_decomposes_145 rfl ?_
      refine sm_loop (fun r146 hr146 => ?_) _
      refine sm_iload_n (pc := 146) (n := 3) dX9_decomposes_146 rfl ?_
      refine sm_iload_n (pc := 147) (n := 1) dX9_decomposes_147 rfl ?_
      refine sm_join (pc := 148) (pc' := 171) ?_ (fun j171 hj171 => ?_)
      · skip
        refine sm_iconst (pc := 171) dX9_decomposes_171 zc_i_0 ?_
        refine sm_istore (pc := 172) (n := 4) dX9_decomposes_172 ?_
        refine sm_loop (fun r174 hr174 => ?_) _
        refine sm_iload (pc := 174) (n := 4) dX9_decomposes_174 ?_
        refine sm_bipush (pc := 176) dX9_decomposes_176 zc_b_22 ?_
        refine sm_join (pc := 178) (pc' := 244) ?_ (fun j244 hj244 => ?_)
        · skip
          refine sm_aload_n (pc := 244) (n := 0) dX9_decomposes_244 rfl ?_
          refine sm_getfieldR (pc := 245) (ci := 9) (n := 39) (C := RX9) (T := TX9) (N := 63) rfl rfl inz9 rfl (by decide) rfl wd_1057 rfl dX9_decomposes_245 ?_
          refine sm_bipush (pc := 248) dX9_decomposes_248 zc_b_22 ?_
          refine sm_iload_n (pc := 250) (n := 2) dX9_decomposes_250 rfl ?_
          refine sm_imul (pc := 251) dX9_decomposes_251 ?_
          refine sm_iload_n (pc := 252) (n := 2) dX9_decomposes_252 rfl ?_
          refine sm_iadd (pc := 253) dX9_decomposes_253 ?_
          refine sm_iaload (pc := 254) dX9_decomposes_254 ?_
          refine sm_sipush (pc := 255) dX9_decomposes_255 zc_s_32001 ?_
          refine sm_sipush (pc := 258) dX9_decomposes_258 zc_s_32003 ?_
          refine sm_cS (pc := 261) (n := 3) (mc := 0) (ms := 0) m_X9_power (zrunS (n := 3) wd_994 wd_14 wd_992 wd_993 (by decide) (by decide) (by decide) dX9_decomposes_261) ?_
          refine sm_istore (pc := 264) (n := 4) dX9_decomposes_264 ?_
          refine sm_iconst (pc := 266) dX9_decomposes_266 zc_i_0 ?_
          refine sm_istore (pc := 267) (n := 5) dX9_decomposes_267 ?_
          refine sm_loop (fun r269 hr269 => ?_) _
          refine sm_iload (pc := 269) (n := 5) dX9_decomposes_269 ?_
          refine sm_bipush (pc := 271) dX9_decomposes_271 zc_b_22 ?_
          refine sm_icmp_ge (pc := 273) (tgt := 316) dX9_decomposes_273 (by decide) ?_ ?_
          · skip
            refine sm_iconst (pc := 316) dX9_decomposes_316 zc_i_0 ?_
            refine sm_istore (pc := 317) (n := 5) dX9_decomposes_317 ?_
            refine sm_loop (fun r319 hr319 => ?_) _
            refine sm_iload (pc := 319) (n := 5) dX9_decomposes_319 ?_
            refine sm_iload_n (pc := 321) (n := 1) dX9_decomposes_321 rfl ?_
            refine sm_icmp_ge (pc := 322) (tgt := 429) dX9_decomposes_322 (by decide) ?_ ?_
            · skip
              refine sm_iinc (pc := 429) (n := 2) dX9_decomposes_429 zc_i_1 ?_
              refine sm_goto (pc := 432) (tgt := 136) dX9_decomposes_432 (by decide) ?_
              exact hr136
            · skip
              refine sm_aload_n (pc := 325) (n := 0) dX9_decomposes_325 rfl ?_
              refine sm_getfieldR (pc := 326) (ci := 9) (n := 39) (C := RX9) (T := TX9) (N := 63) rfl rfl inz9 rfl (by decide) rfl wd_1057 rfl dX9_decomposes_326 ?_
              refine sm_bipush (pc := 329) dX9_decomposes_329 zc_b_22 ?_
              refine sm_iload (pc := 331) (n := 5) dX9_decomposes_331 ?_
              refine sm_imul (pc := 333) dX9_decomposes_333 ?_
              refine sm_iload_n (pc := 334) (n := 2) dX9_decomposes_334 rfl ?_
              refine sm_iadd (pc := 335) dX9_decomposes_335 ?_
              refine sm_iaload (pc := 336) dX9_decomposes_336 ?_
              refine sm_istore (pc := 337) (n := 6) dX9_decomposes_337 ?_
              refine sm_iload (pc := 339) (n := 5) dX9_decomposes_339 ?_
              refine sm_iload_n (pc := 341) (n := 2) dX9_decomposes_341 rfl ?_
              refine sm_join (pc := 342) (pc' := 423) ?_ (fun j423 hj423 => ?_)
              · skip
                refine sm_iinc (pc := 423) (n := 5) dX9_decomposes_423 zc_i_1 ?_
                refine sm_goto (pc := 426) (tgt := 319) dX9_decomposes_426 (by decide) ?_
                exact hr319
              refine sm_icmp_eq (pc := 342) (tgt := 423) dX9_decomposes_342 (by decide) ?_ ?_
              · skip
                exact hj423
              · skip
                refine sm_iload (pc := 345) (n := 6) dX9_decomposes_345 ?_
                refine sm_if_ne (pc := 347) (tgt := 353) dX9_decomposes_347 (by decide) ?_ ?_
                · skip
                  refine sm_iconst (pc := 353) dX9_decomposes_353 zc_i_0 ?_
                  refine sm_istore (pc := 354) (n := 7) dX9_decomposes_354 ?_
                  refine sm_loop (fun r356 hr356 => ?_) _
                  refine sm_iload (pc := 356) (n := 7) dX9_decomposes_356 ?_
                  refine sm_bipush (pc := 358) dX9_decomposes_358 zc_b_22 ?_
                  refine sm_icmp_ge (pc := 360) (tgt := 423) dX9_decomposes_360 (by decide) ?_ ?_
                  · skip
                    exact hj423
                  · skip
                    refine sm_aload_n (pc := 363) (n := 0) dX9_decomposes_363 rfl ?_
                    refine sm_getfieldR (pc := 364) (ci := 9) (n := 39) (C := RX9) (T := TX9) (N := 63) rfl rfl inz9 rfl (by decide) rfl wd_1057 rfl dX9_decomposes_364 ?_
                    refine sm_bipush (pc := 367) dX9_decomposes_367 zc_b_22 ?_
                    refine sm_iload (pc := 369) (n := 5) dX9_decomposes_369 ?_
                    refine sm_imul (pc := 371) dX9_decomposes_371 ?_
                    refine sm_iload (pc := 372) (n := 7) dX9_decomposes_372 ?_
                    refine sm_iadd (pc := 374) dX9_decomposes_374 ?_
                    refine sm_aload_n (pc := 375) (n := 0) dX9_decomposes_375 rfl ?_
                    refine sm_getfieldR (pc := 376) (ci := 9) (n := 39) (C := RX9) (T := TX9) (N := 63) rfl rfl inz9 rfl (by decide) rfl wd_1057 rfl dX9_decomposes_376 ?_
                    refine sm_bipush (pc := 379) dX9_decomposes_379 zc_b_22 ?_
                    refine sm_iload (pc := 381) (n := 5) dX9_decomposes_381 ?_
                    refine sm_imul (pc := 383) dX9_decomposes_383 ?_
                    refine sm_iload (pc := 384) (n := 7) dX9_decomposes_384 ?_
                    refine sm_iadd (pc := 386) dX9_decomposes_386 ?_
                    refine sm_iaload (pc := 387) dX9_decomposes_387 ?_
                    refine sm_i2l (pc := 388) dX9_decomposes_388 ?_
                    refine sm_sipush (pc := 389) dX9_decomposes_389 zc_s_32003 ?_
                    refine sm_iload (pc := 392) (n := 6) dX9_decomposes_392 ?_
                    refine sm_isub (pc := 394) dX9_decomposes_394 ?_
                    refine sm_i2l (pc := 395) dX9_decomposes_395 ?_
                    refine sm_aload_n (pc := 396) (n := 0) dX9_decomposes_396 rfl ?_
                    refine sm_getfieldR (pc := 397) (ci := 9) (n := 39) (C := RX9) (T := TX9) (N := 63) rfl rfl inz9 rfl (by decide) rfl wd_1057 rfl dX9_decomposes_397 ?_
                    refine sm_bipush (pc := 400) dX9_decomposes_400 zc_b_22 ?_
                    refine sm_iload_n (pc := 402) (n := 2) dX9_decomposes_402 rfl ?_
                    refine sm_imul (pc := 403) dX9_decomposes_403 ?_
                    refine sm_iload (pc := 404) (n := 7) dX9_decomposes_404 ?_
                    refine sm_iadd (pc := 406) dX9_decomposes_406 ?_
                    refine sm_iaload (pc := 407) dX9_decomposes_407 ?_
                    refine sm_i2l (pc := 408) dX9_decomposes_408 ?_
                    refine sm_lmul (pc := 409) dX9_decomposes_409 ?_
                    refine sm_ladd (pc := 410) dX9_decomposes_410 ?_
                    refine sm_ldc2 (pc := 411) dX9_decomposes_411 wd_1017 zc_cl_32003 ?_
                    refine sm_lrem (pc := 414) dX9_decomposes_414 ?_
                    refine sm_l2i (pc := 415) dX9_decomposes_415 ?_
                    refine sm_iastore (pc := 416) dX9_decomposes_416 ?_
                    refine sm_iinc (pc := 417) (n := 7) dX9_decomposes_417 zc_i_1 ?_
                    refine sm_goto (pc := 420) (tgt := 356) dX9_decomposes_420 (by decide) ?_
                    exact hr356
                · skip
                  refine sm_goto (pc := 350) (tgt := 423) dX9_decomposes_350 (by decide) ?_
                  exact hj423
          · skip
            refine sm_aload_n (pc := 276) (n := 0) dX9_decomposes_276 rfl ?_
            refine sm_getfieldR (pc := 277) (ci := 9) (n := 39) (C := RX9) (T := TX9) (N := 63) rfl rfl inz9 rfl (by decide) rfl wd_1057 rfl dX9_decomposes_277 ?_
            refine sm_bipush (pc := 280) dX9_decomposes_280 zc_b_22 ?_
            refine sm_iload_n (pc := 282) (n := 2) dX9_decomposes_282 rfl ?_
            refine sm_imul (pc := 283) dX9_decomposes_283 ?_
            refine sm_iload (pc := 284) (n := 5) dX9_decomposes_284 ?_
            refine sm_iadd (pc := 286) dX9_decomposes_286 ?_
            refine sm_aload_n (pc := 287) (n := 0) dX9_decomposes_287 rfl ?_
            refine sm_getfieldR (pc := 288) (ci := 9) (n := 39) (C := RX9) (T := TX9) (N := 63) rfl rfl inz9 rfl (by decide) rfl wd_1057 rfl dX9_decomposes_288 ?_
            refine sm_bipush (pc := 291) dX9_decomposes_291 zc_b_22 ?_
            refine sm_iload_n (pc := 293) (n := 2) dX9_decomposes_293 rfl ?_
            refine sm_imul (pc := 294) dX9_decomposes_294 ?_
            refine sm_iload (pc := 295) (n := 5) dX9_decomposes_295 ?_
            refine sm_iadd (pc := 297) dX9_decomposes_297 ?_
            refine sm_iaload (pc := 298) dX9_decomposes_298 ?_
            refine sm_i2l (pc := 299) dX9_decomposes_299 ?_
            refine sm_iload (pc := 300) (n := 4) dX9_decomposes_300 ?_
            refine sm_i2l (pc := 302) dX9_decomposes_302 ?_
            refine sm_lmul (pc := 303) dX9_decomposes_303 ?_
            refine sm_ldc2 (pc := 304) dX9_decomposes_304 wd_1017 zc_cl_32003 ?_
            refine sm_lrem (pc := 307) dX9_decomposes_307 ?_
            refine sm_l2i (pc := 308) dX9_decomposes_308 ?_
            refine sm_iastore (pc := 309) dX9_decomposes_309 ?_
            refine sm_iinc (pc := 310) (n := 5) dX9_decomposes_310 zc_i_1 ?_
            refine sm_goto (pc := 313) (tgt := 269) dX9_decomposes_313 (by decide) ?_
            exact hr269
        refine sm_icmp_ge (pc := 178) (tgt := 244) dX9_decomposes_178 (by decide) ?_ ?_
        · skip
          exact hj244
        · skip
          refine sm_iload_n (pc := 181) (n := 3) dX9_decomposes_181 rfl ?_
          refine sm_iload_n (pc := 182) (n := 1) dX9_decomposes_182 rfl ?_
          refine sm_icmp_ge (pc := 183) (tgt := 244) dX9_decomposes_183 (by decide) ?_ ?_
          · skip
            exact hj244
          · skip
            refine sm_aload_n (pc := 186) (n := 0) dX9_decomposes_186 rfl ?_
            refine sm_getfieldR (pc := 187) (ci := 9) (n := 39) (C := RX9) (T := TX9) (N := 63) rfl rfl inz9 rfl (by decide) rfl wd_1057 rfl dX9_decomposes_187 ?_
            refine sm_bipush (pc := 190) dX9_decomposes_190 zc_b_22 ?_
            refine sm_iload_n (pc := 192) (n := 3) dX9_decomposes_192 rfl ?_
            refine sm_imul (pc := 193) dX9_decomposes_193 ?_
            refine sm_iload (pc := 194) (n := 4) dX9_decomposes_194 ?_
            refine sm_iadd (pc := 196) dX9_decomposes_196 ?_
            refine sm_iaload (pc := 197) dX9_decomposes_197 ?_
            refine sm_istore (pc := 198) (n := 5) dX9_decomposes_198 ?_
            refine sm_aload_n (pc := 200) (n := 0) dX9_decomposes_200 rfl ?_
            refine sm_getfieldR (pc := 201) (ci := 9) (n := 39) (C := RX9) (T := TX9) (N := 63) rfl rfl inz9 rfl (by decide) rfl wd_1057 rfl dX9_decomposes_201 ?_
            refine sm_bipush (pc := 204) dX9_decomposes_204 zc_b_22 ?_
            refine sm_iload_n (pc := 206) (n := 3) dX9_decomposes_206 rfl ?_
            refine sm_imul (pc := 207) dX9_decomposes_207 ?_
            refine sm_iload (pc := 208) (n := 4) dX9_decomposes_208 ?_
            refine sm_iadd (pc := 210) dX9_decomposes_210 ?_
            refine sm_aload_n (pc := 211) (n := 0) dX9_decomposes_211 rfl ?_
            refine sm_getfieldR (pc := 212) (ci := 9) (n := 39) (C := RX9) (T := TX9) (N := 63) rfl rfl inz9 rfl (by decide) rfl wd_1057 rfl dX9_decomposes_212 ?_
            refine sm_bipush (pc := 215) dX9_decomposes_215 zc_b_22 ?_
            refine sm_iload_n (pc := 217) (n := 2) dX9_decomposes_217 rfl ?_
            refine sm_imul (pc := 218) dX9_decomposes_218 ?_
            refine sm_iload (pc := 219) (n := 4) dX9_decomposes_219 ?_
            refine sm_iadd (pc := 221) dX9_decomposes_221 ?_
            refine sm_iaload (pc := 222) dX9_decomposes_222 ?_
            refine sm_iastore (pc := 223) dX9_decomposes_223 ?_
            refine sm_aload_n (pc := 224) (n := 0) dX9_decomposes_224 rfl ?_
            refine sm_getfieldR (pc := 225) (ci := 9) (n := 39) (C := RX9) (T := TX9) (N := 63) rfl rfl inz9 rfl (by decide) rfl wd_1057 rfl dX9_decomposes_225 ?_
            refine sm_bipush (pc := 228) dX9_decomposes_228 zc_b_22 ?_
            refine sm_iload_n (pc := 230) (n := 2) dX9_decomposes_230 rfl ?_
            refine sm_imul (pc := 231) dX9_decomposes_231 ?_
            refine sm_iload (pc := 232) (n := 4) dX9_decomposes_232 ?_
            refine sm_iadd (pc := 234) dX9_decomposes_234 ?_
            refine sm_iload (pc := 235) (n := 5) dX9_decomposes_235 ?_
            refine sm_iastore (pc := 237) dX9_decomposes_237 ?_
            refine sm_iinc (pc := 238) (n := 4) dX9_decomposes_238 zc_i_1 ?_
            refine sm_goto (pc := 241) (tgt := 174) dX9_decomposes_241 (by decide) ?_
            exact hr174
      refine sm_icmp_ge (pc := 148) (tgt := 171) dX9_decomposes_148 (by decide) ?_ ?_
      · skip
        exact hj171
      · skip
        refine sm_aload_n (pc := 151) (n := 0) dX9_decomposes_151 rfl ?_
        refine sm_getfieldR (pc := 152) (ci := 9) (n := 39) (C := RX9) (T := TX9) (N := 63) rfl rfl inz9 rfl (by decide) rfl wd_1057 rfl dX9_decomposes_152 ?_
        refine sm_bipush (pc := 155) dX9_decomposes_155 zc_b_22 ?_
        refine sm_iload_n (pc := 157) (n := 3) dX9_decomposes_157 rfl ?_
        refine sm_imul (pc := 158) dX9_decomposes_158 ?_
        refine sm_iload_n (pc := 159) (n := 2) dX9_decomposes_159 rfl ?_
        refine sm_iadd (pc := 160) dX9_decomposes_160 ?_
        refine sm_iaload (pc := 161) dX9_decomposes_161 ?_
        refine sm_if_ne (pc := 162) (tgt := 171) dX9_decomposes_162 (by decide) ?_ ?_
        · skip
          exact hj171
        · skip
          refine sm_iinc (pc := 165) (n := 3) dX9_decomposes_165 zc_i_1 ?_
          refine sm_goto (pc := 168) (tgt := 146) dX9_decomposes_168 (by decide) ?_
          exact hr146
  · skip
    refine sm_aload_n (pc := 12) (n := 0) dX9_decomposes_12 rfl ?_
    refine sm_getfieldR (pc := 13) (ci := 9) (n := 8) (C := RX9) (T := TX9) (N := 63) rfl rfl inz9 rfl (by decide) rfl wd_1026 rfl dX9_decomposes_13 ?_
    refine sm_iload_n (pc := 16) (n := 2) dX9_decomposes_16 rfl ?_
    refine sm_baload (pc := 17) dX9_decomposes_17 ?_
    refine sm_join (pc := 18) (pc' := 128) ?_ (fun j128 hj128 => ?_)
    · skip
      refine sm_iinc (pc := 128) (n := 2) dX9_decomposes_128 zc_i_1 ?_
      refine sm_goto (pc := 131) (tgt := 4) dX9_decomposes_131 (by decide) ?_
      exact hr4
    refine sm_if_ne (pc := 18) (tgt := 24) dX9_decomposes_18 (by decide) ?_ ?_
    · skip
      refine sm_iconst (pc := 24) dX9_decomposes_24 zc_i_0 ?_
      refine sm_istore_n (pc := 25) (n := 3) dX9_decomposes_25 rfl ?_
      refine sm_loop (fun r26 hr26 => ?_) _
      refine sm_iload_n (pc := 26) (n := 3) dX9_decomposes_26 rfl ?_
      refine sm_aload_n (pc := 27) (n := 0) dX9_decomposes_27 rfl ?_
      refine sm_getfieldI (pc := 28) (ci := 9) (n := 2) (C := RX9) (T := TX9) (N := 63) rfl rfl inz9 rfl (by decide) rfl wd_1020 rfl dX9_decomposes_28 ?_
      refine sm_icmp_ge (pc := 31) (tgt := 125) dX9_decomposes_31 (by decide) ?_ ?_
      · skip
        refine sm_iinc (pc := 125) (n := 1) dX9_decomposes_125 zc_i_1 ?_
        exact hj128
      · skip
        refine sm_aload_n (pc := 34) (n := 0) dX9_decomposes_34 rfl ?_
        refine sm_getfieldR (pc := 35) (ci := 9) (n := 7) (C := RX9) (T := TX9) (N := 63) rfl rfl inz9 rfl (by decide) rfl wd_1025 rfl dX9_decomposes_35 ?_
        refine sm_iload_n (pc := 38) (n := 3) dX9_decomposes_38 rfl ?_
        refine sm_baload (pc := 39) dX9_decomposes_39 ?_
        refine sm_join (pc := 40) (pc' := 82) ?_ (fun j82 hj82 => ?_)
        · skip
          refine sm_aload_n (pc := 82) (n := 0) dX9_decomposes_82 rfl ?_
          refine sm_getfieldR (pc := 83) (ci := 9) (n := 39) (C := RX9) (T := TX9) (N := 63) rfl rfl inz9 rfl (by decide) rfl wd_1057 rfl dX9_decomposes_83 ?_
          refine sm_bipush (pc := 86) dX9_decomposes_86 zc_b_22 ?_
          refine sm_iload_n (pc := 88) (n := 1) dX9_decomposes_88 rfl ?_
          refine sm_imul (pc := 89) dX9_decomposes_89 ?_
          refine sm_bipush (pc := 90) dX9_decomposes_90 zc_b_11 ?_
          refine sm_iadd (pc := 92) dX9_decomposes_92 ?_
          refine sm_iload_n (pc := 93) (n := 3) dX9_decomposes_93 rfl ?_
          refine sm_iadd (pc := 94) dX9_decomposes_94 ?_
          refine sm_aload_n (pc := 95) (n := 0) dX9_decomposes_95 rfl ?_
          refine sm_getfieldR (pc := 96) (ci := 9) (n := 14) (C := RX9) (T := TX9) (N := 63) rfl rfl inz9 rfl (by decide) rfl wd_1032 rfl dX9_decomposes_96 ?_
          refine sm_bipush (pc := 99) dX9_decomposes_99 zc_b_11 ?_
          refine sm_iload_n (pc := 101) (n := 3) dX9_decomposes_101 rfl ?_
          refine sm_imul (pc := 102) dX9_decomposes_102 ?_
          refine sm_iload_n (pc := 103) (n := 2) dX9_decomposes_103 rfl ?_
          refine sm_iadd (pc := 104) dX9_decomposes_104 ?_
          refine sm_iaload (pc := 105) dX9_decomposes_105 ?_
          refine sm_sipush (pc := 106) dX9_decomposes_106 zc_s_32003 ?_
          refine sm_irem (pc := 109) dX9_decomposes_109 ?_
          refine sm_sipush (pc := 110) dX9_decomposes_110 zc_s_32003 ?_
          refine sm_iadd (pc := 113) dX9_decomposes_113 ?_
          refine sm_sipush (pc := 114) dX9_decomposes_114 zc_s_32003 ?_
          refine sm_irem (pc := 117) dX9_decomposes_117 ?_
          refine sm_iastore (pc := 118) dX9_decomposes_118 ?_
          refine sm_iinc (pc := 119) (n := 3) dX9_decomposes_119 zc_i_1 ?_
          refine sm_goto (pc := 122) (tgt := 26) dX9_decomposes_122 (by decide) ?_
          exact hr26
        refine sm_if_eq (pc := 40) (tgt := 82) dX9_decomposes_40 (by decide) ?_ ?_
        · skip
          exact hj82
        · skip
          refine sm_aload_n (pc := 43) (n := 0) dX9_decomposes_43 rfl ?_
          refine sm_getfieldR (pc := 44) (ci := 9) (n := 39) (C := RX9) (T := TX9) (N := 63) rfl rfl inz9 rfl (by decide) rfl wd_1057 rfl dX9_decomposes_44 ?_
          refine sm_bipush (pc := 47) dX9_decomposes_47 zc_b_22 ?_
          refine sm_iload_n (pc := 49) (n := 1) dX9_decomposes_49 rfl ?_
          refine sm_imul (pc := 50) dX9_decomposes_50 ?_
          refine sm_aload_n (pc := 51) (n := 0) dX9_decomposes_51 rfl ?_
          refine sm_getfieldR (pc := 52) (ci := 9) (n := 10) (C := RX9) (T := TX9) (N := 63) rfl rfl inz9 rfl (by decide) rfl wd_1028 rfl dX9_decomposes_52 ?_
          refine sm_iload_n (pc := 55) (n := 3) dX9_decomposes_55 rfl ?_
          refine sm_iaload (pc := 56) dX9_decomposes_56 ?_
          refine sm_iadd (pc := 57) dX9_decomposes_57 ?_
          refine sm_aload_n (pc := 58) (n := 0) dX9_decomposes_58 rfl ?_
          refine sm_getfieldR (pc := 59) (ci := 9) (n := 37) (C := RX9) (T := TX9) (N := 63) rfl rfl inz9 rfl (by decide) rfl wd_1055 rfl dX9_decomposes_59 ?_
          refine sm_bipush (pc := 62) dX9_decomposes_62 zc_b_11 ?_
          refine sm_iload_n (pc := 64) (n := 3) dX9_decomposes_64 rfl ?_
          refine sm_imul (pc := 65) dX9_decomposes_65 ?_
          refine sm_iload_n (pc := 66) (n := 2) dX9_decomposes_66 rfl ?_
          refine sm_iadd (pc := 67) dX9_decomposes_67 ?_
          refine sm_iaload (pc := 68) dX9_decomposes_68 ?_
          refine sm_sipush (pc := 69) dX9_decomposes_69 zc_s_32003 ?_
          refine sm_irem (pc := 72) dX9_decomposes_72 ?_
          refine sm_sipush (pc := 73) dX9_decomposes_73 zc_s_32003 ?_
          refine sm_iadd (pc := 76) dX9_decomposes_76 ?_
          refine sm_sipush (pc := 77) dX9_decomposes_77 zc_s_32003 ?_
          refine sm_irem (pc := 80) dX9_decomposes_80 ?_
          refine sm_iastore (pc := 81) dX9_decomposes_81 ?_
          exact hj82
    · skip
      refine sm_goto (pc := 21) (tgt := 128) dX9_decomposes_21 (by decide) ?_
      exact hj128
noncomputable def f_X9_decomposes {d : Nat} : List zV → zH d → zP d → Bool := zfn 8 b_X9_decomposes
theorem m_X9_decomposes {d : Nat} : zMet (d := d) X_X9_decomposes yX9_decomposes 2 f_X9_decomposes := zmet_mk (X := X_X9_decomposes) (by decide) rfl rfl s_X9_decomposes

abbrev X_X9_lays : zM := (RX9, cX9_lays, 7, none, "lays")
noncomputable def b_X9_lays {d : Nat} (P : zP d) : zK d := (xald 0 (xild 1 (xpfI 25 0 (xald 0 (xild 2 (xpfI 25 1 (xald 0 (xpI 0 (xpfI 25 2 (xald 0 (xpI 0 (xald 0 (xgfI 25 0 (xald 0 (xgfI 25 0 (xcV 25 4 0 0 f_X9_grows (xald 0 (xcV 25 1 0 0 f_X9_classes (xald 0 (xcV 25 1 0 0 f_X9_cores (xald 0 (xpI 0 (xpfI 25 23 (xpI 0 (xist 3 (xloop (fun r43 => (xild 3 (xpI 242 (xcmp tge (xpI 0 (xist 3 (xloop (fun r65 => (xild 3 (xald 0 (xgfI 25 2 (xcmp tge (xald 0 (xcV 25 1 0 0 f_X9_decomposes (xpI 0 (xist 3 (xloop (fun r225 => (xild 3 (xald 0 (xgfI 25 2 (xcmp tge (xpI 0 (xist 3 (xloop (fun r339 => (xild 3 (xpI 66 (xcmp tge (xvret P) (xald 0 (xgfR 25 43 (xild 3 (xpL 0 (xlas (xinc 3 1 r339)))))))))) 100000))) (xpI 0 (xist 4 (xloop (fun r236 => (xild 4 (xald 0 (xgfI 25 2 (xjoin (xinc 3 1 r225) (fun j331 => (xcmp tge j331 (xald 0 (xgfR 25 7 (xild 3 (xald1 1 (xif0 t0eq j331 (xpI 0 (xist 5 (xpI 0 (xist 6 (xloop (fun r260 => (xild 6 (xald 0 (xgfI 25 2 (xcmp tge (xald 0 (xgfR 25 40 (xpI 11 (xild 3 (xbin zmul (xild 4 (xbin zadd (xild 5 (xast1 0 (fun v => v) (xinc 4 1 r236)))))))))) (xild 5 (xald 0 (xgfR 25 38 (xpI 11 (xild 6 (xbin zmul (xald 0 (xgfR 25 10 (xild 3 (xald1 0 (xbin zadd (xald1 0 (xald 0 (xgfR 25 14 (xpI 11 (xild 6 (xbin zmul (xild 4 (xbin zadd (xald1 0 (xbin zmul (xbin zadd (xist 5 (xinc 6 1 r260))))))))))))))))))))))))))))) 100000))))))))))))))))) 100000)))))))) 100000))))) (xpI 0 (xist 4 (xloop (fun r76 => (xild 4 (xald 0 (xgfI 25 2 (xcmp tge (xald 0 (xild 3 (xpfI 25 25 (xald 0 (xgfR 25 20 (xild 3 (xald 0 (xgfI 25 23 (xast1 0 (fun v => v) (xald 0 (xpI 0 (xpI 0 (xcV 25 3 0 0 f_X9_fills (xald 0 (xgfR 25 21 (xild 3 (xald 0 (xgfI 25 23 (xald 0 (xgfR 25 20 (xild 3 (xald1 0 (xbin zsub (xast1 0 (fun v => v) (xald 0 (xild 3 (xcV 25 2 0 0 f_X9_forms (xpI 0 (xist 4 (xloop (fun r161 => (xild 4 (xald 0 (xgfI 25 2 (xjoin (xinc 3 1 r65) (fun j213 => (xcmp tge j213 (xald 0 (xgfR 25 7 (xild 3 (xald1 1 (xif0 t0eq j213 (xald 0 (xgfR 25 8 (xild 4 (xald1 1 (xjoin (xinc 4 1 r161) (fun j207 => (xif0 t0eq j207 (xald 0 (xgfR 25 37 (xpI 11 (xild 3 (xbin zmul (xild 4 (xbin zadd (xald 0 (xild 4 (xcV 25 2 0 0 f_X9_modularOf (xast1 0 (fun v => v) j207)))))))))))))))))))))))))))))) 100000)))))))))))))))))))))))))))))) (xald 0 (xgfR 25 14 (xpI 11 (xild 3 (xbin zmul (xild 4 (xbin zadd (xald 0 (xald 0 (xild 3 (xcV 25 2 0 0 f_X9_beadsOf (xild 4 (xpI 0 (xcV 25 4 0 0 f_X9_charOf (xast1 0 (fun v => v) (xinc 4 1 r76))))))))))))))))))))) 100000)))))))) 100000))) (xald 0 (xgfR 25 39 (xild 3 (xpI 0 (xast1 0 (fun v => v) (xinc 3 1 r43)))))))))) 100000))))))))))))))))))))))))))
set_option maxRecDepth 100000 in
set_option maxHeartbeats 4000000 in
theorem s_X9_lays {d : Nat} (P : zP d) : zSim X_X9_lays 20 P 0 (b_X9_lays P) := by
  unfold b_X9_lays
  refine sm_aload_n (pc := 0) (n := 0) dX9_lays_0 rfl ?_
  refine sm_iload_n (pc := 1) (n := 1) dX9_lays_1 rfl ?_
  refine sm_putI (pc := 2) (ci := 9) (n := 0) (ty := tyX9 0) rfl (by decide) rfl rfl (zput (C := RX9) (T := TX9) (N := 63) (ty0 := tyX9) (ty := tyX9 0) inz9 tyX9_ok nmX9 rfl (by decide) wd_1018 rfl rfl dX9_lays_2) ?_
  refine sm_aload_n (pc := 5) (n := 0) dX9_lays_5 rfl ?_
  refine sm_iload_n (pc := 6) (n := 2) dX9_lays_6 rfl ?_
  refine sm_putI (pc := 7) (ci := 9) (n := 1) (ty := tyX9 1) rfl (by decide) rfl rfl (zput (C := RX9) (T := TX9) (N := 63) (ty0 := tyX9) (ty := tyX9 1) inz9 tyX9_ok nmX9 rfl (by decide) wd_1019 rfl rfl dX9_lays_7) ?_
  refine sm_aload_n (pc := 10) (n := 0) dX9_lays_10 rfl ?_
  refine sm_iconst (pc := 11) dX9_lays_11 zc_i_0 ?_
  refine sm_putI (pc := 12) (ci := 9) (n := 2) (ty := tyX9 2) rfl (by decide) rfl rfl (zput (C := RX9) (T := TX9) (N := 63) (ty0 := tyX9) (ty := tyX9 2) inz9 tyX9_ok nmX9 rfl (by decide) wd_1020 rfl rfl dX9_lays_12) ?_
  refine sm_aload_n (pc := 15) (n := 0) dX9_lays_15 rfl ?_
  refine sm_iconst (pc := 16) dX9_lays_16 zc_i_0 ?_
  refine sm_aload_n (pc := 17) (n := 0) dX9_lays_17 rfl ?_
  refine sm_getfieldI (pc := 18) (ci := 9) (n := 0) (C := RX9) (T := TX9) (N := 63) rfl rfl inz9 rfl (by decide) rfl wd_1018 rfl dX9_lays_18 ?_
  refine sm_aload_n (pc := 21) (n := 0) dX9_lays_21 rfl ?_
  refine sm_getfieldI (pc := 22) (ci := 9) (n := 0) (C := RX9) (T := TX9) (N := 63) rfl rfl inz9 rfl (by decide) rfl wd_1018 rfl dX9_lays_22 ?_
  refine sm_cV (pc := 25) (ci := 9) (n := 4) (mc := 0) (ms := 0) rfl m_X9_grows (zrunV (n := 3) (ci := 9) rfl rfl wd_916 wd_14 wd_913 wd_915 ws_54 (by decide) (by decide) (by decide) dX9_lays_25) ?_
  refine sm_aload_n (pc := 28) (n := 0) dX9_lays_28 rfl ?_
  refine sm_cV (pc := 29) (ci := 9) (n := 1) (mc := 0) (ms := 0) rfl m_X9_classes (zrunV (n := 0) (ci := 9) rfl rfl wd_921 wd_14 wd_918 wd_920 ws_55 (by decide) (by decide) (by decide) dX9_lays_29) ?_
  refine sm_aload_n (pc := 32) (n := 0) dX9_lays_32 rfl ?_
  refine sm_cV (pc := 33) (ci := 9) (n := 1) (mc := 0) (ms := 0) rfl m_X9_cores (zrunV (n := 0) (ci := 9) rfl rfl wd_936 wd_14 wd_933 wd_935 ws_57 (by decide) (by decide) (by decide) dX9_lays_33) ?_
  refine sm_aload_n (pc := 36) (n := 0) dX9_lays_36 rfl ?_
  refine sm_iconst (pc := 37) dX9_lays_37 zc_i_0 ?_
  refine sm_putI (pc := 38) (ci := 9) (n := 23) (ty := tyX9 23) rfl (by decide) rfl rfl (zput (C := RX9) (T := TX9) (N := 63) (ty0 := tyX9) (ty := tyX9 23) inz9 tyX9_ok nmX9 rfl (by decide) wd_1041 rfl rfl dX9_lays_38) ?_
  refine sm_iconst (pc := 41) dX9_lays_41 zc_i_0 ?_
  refine sm_istore_n (pc := 42) (n := 3) dX9_lays_42 rfl ?_
  refine sm_loop (fun r43 hr43 => ?_) _
  refine sm_iload_n (pc := 43) (n := 3) dX9_lays_43 rfl ?_
  refine sm_sipush (pc := 44) dX9_lays_44 zc_s_242 ?_
  refine sm_icmp_ge (pc := 47) (tgt := 63) dX9_lays_47 (by decide) ?_ ?_
  · skip
    refine sm_iconst (pc := 63) dX9_lays_63 zc_i_0 ?_
    refine sm_istore_n (pc := 64) (n := 3) dX9_lays_64 rfl ?_
    refine sm_loop (fun r65 hr65 => ?_) _
    refine sm_iload_n (pc := 65) (n := 3) dX9_lays_65 rfl ?_
    refine sm_aload_n (pc := 66) (n := 0) dX9_lays_66 rfl ?_
    refine sm_getfieldI (pc := 67) (ci := 9) (n := 2) (C := RX9) (T := TX9) (N := 63) rfl rfl inz9 rfl (by decide) rfl wd_1020 rfl dX9_lays_67 ?_
    refine sm_icmp_ge (pc := 70) (tgt := 219) dX9_lays_70 (by decide) ?_ ?_
    · skip
      refine sm_aload_n (pc := 219) (n := 0) dX9_lays_219 rfl ?_
      refine sm_cV (pc := 220) (ci := 9) (n := 1) (mc := 0) (ms := 0) rfl m_X9_decomposes (zrunV (n := 0) (ci := 9) rfl rfl wd_1016 wd_14 wd_1013 wd_1015 ws_74 (by decide) (by decide) (by decide) dX9_lays_220) ?_
      refine sm_iconst (pc := 223) dX9_lays_223 zc_i_0 ?_
      refine sm_istore_n (pc := 224) (n := 3) dX9_lays_224 rfl ?_
      refine sm_loop (fun r225 hr225 => ?_) _
      refine sm_iload_n (pc := 225) (n := 3) dX9_lays_225 rfl ?_
      refine sm_aload_n (pc := 226) (n := 0) dX9_lays_226 rfl ?_
      refine sm_getfieldI (pc := 227) (ci := 9) (n := 2) (C := RX9) (T := TX9) (N := 63) rfl rfl inz9 rfl (by decide) rfl wd_1020 rfl dX9_lays_227 ?_
      refine sm_icmp_ge (pc := 230) (tgt := 337) dX9_lays_230 (by decide) ?_ ?_
      · skip
        refine sm_iconst (pc := 337) dX9_lays_337 zc_i_0 ?_
        refine sm_istore_n (pc := 338) (n := 3) dX9_lays_338 rfl ?_
        refine sm_loop (fun r339 hr339 => ?_) _
        refine sm_iload_n (pc := 339) (n := 3) dX9_lays_339 rfl ?_
        refine sm_bipush (pc := 340) dX9_lays_340 zc_b_66 ?_
        refine sm_icmp_ge (pc := 342) (tgt := 358) dX9_lays_342 (by decide) ?_ ?_
        · skip
          exact sm_vreturn (pc := 358) dX9_lays_358 rfl
        · skip
          refine sm_aload_n (pc := 345) (n := 0) dX9_lays_345 rfl ?_
          refine sm_getfieldR (pc := 346) (ci := 9) (n := 43) (C := RX9) (T := TX9) (N := 63) rfl rfl inz9 rfl (by decide) rfl wd_1061 rfl dX9_lays_346 ?_
          refine sm_iload_n (pc := 349) (n := 3) dX9_lays_349 rfl ?_
          refine sm_lconst (pc := 350) dX9_lays_350 zc_l_0 ?_
          refine sm_lastore (pc := 351) dX9_lays_351 ?_
          refine sm_iinc (pc := 352) (n := 3) dX9_lays_352 zc_i_1 ?_
          refine sm_goto (pc := 355) (tgt := 339) dX9_lays_355 (by decide) ?_
          exact hr339
      · skip
        refine sm_iconst (pc := 233) dX9_lays_233 zc_i_0 ?_
        refine sm_istore (pc := 234) (n := 4) dX9_lays_234 ?_
        refine sm_loop (fun r236 hr236 => ?_) _
        refine sm_iload (pc := 236) (n := 4) dX9_lays_236 ?_
        refine sm_aload_n (pc := 238) (n := 0) dX9_lays_238 rfl ?_
        refine sm_getfieldI (pc := 239) (ci := 9) (n := 2) (C := RX9) (T := TX9) (N := 63) rfl rfl inz9 rfl (by decide) rfl wd_1020 rfl dX9_lays_239 ?_
        refine sm_join (pc := 242) (pc' := 331) ?_ (fun j331 hj331 => ?_)
        · skip
          refine sm_iinc (pc := 331) (n := 3) dX9_lays_331 zc_i_1 ?_
          refine sm_goto (pc := 334) (tgt := 225) dX9_lays_334 (by decide) ?_
          exact hr225
        refine sm_icmp_ge (pc := 242) (tgt := 331) dX9_lays_242 (by decide) ?_ ?_
        · skip
          exact hj331
        · skip
          refine sm_aload_n (pc := 245) (n := 0) dX9_lays_245 rfl ?_
          refine sm_getfieldR (pc := 246) (ci := 9) (n := 7) (C := RX9) (T := TX9) (N := 63) rfl rfl inz9 rfl (by decide) rfl wd_1025 rfl dX9_lays_246 ?_
          refine sm_iload_n (pc := 249) (n := 3) dX9_lays_249 rfl ?_
          refine sm_baload (pc := 250) dX9_lays_250 ?_
          refine sm_if_eq (pc := 251) (tgt := 331) dX9_lays_251 (by decide) ?_ ?_
          · skip
            exact hj331
          · skip
            refine sm_iconst (pc := 254) dX9_lays_254 zc_i_0 ?_
            refine sm_istore (pc := 255) (n := 5) dX9_lays_255 ?_
            refine sm_iconst (pc := 257) dX9_lays_257 zc_i_0 ?_
            refine sm_istore (pc := 258) (n := 6) dX9_lays_258 ?_
            refine sm_loop (fun r260 hr260 => ?_) _
            refine sm_iload (pc := 260) (n := 6) dX9_lays_260 ?_
            refine sm_aload_n (pc := 262) (n := 0) dX9_lays_262 rfl ?_
            refine sm_getfieldI (pc := 263) (ci := 9) (n := 2) (C := RX9) (T := TX9) (N := 63) rfl rfl inz9 rfl (by decide) rfl wd_1020 rfl dX9_lays_263 ?_
            refine sm_icmp_ge (pc := 266) (tgt := 311) dX9_lays_266 (by decide) ?_ ?_
            · skip
              refine sm_aload_n (pc := 311) (n := 0) dX9_lays_311 rfl ?_
              refine sm_getfieldR (pc := 312) (ci := 9) (n := 40) (C := RX9) (T := TX9) (N := 63) rfl rfl inz9 rfl (by decide) rfl wd_1058 rfl dX9_lays_312 ?_
              refine sm_bipush (pc := 315) dX9_lays_315 zc_b_11 ?_
              refine sm_iload_n (pc := 317) (n := 3) dX9_lays_317 rfl ?_
              refine sm_imul (pc := 318) dX9_lays_318 ?_
              refine sm_iload (pc := 319) (n := 4) dX9_lays_319 ?_
              refine sm_iadd (pc := 321) dX9_lays_321 ?_
              refine sm_iload (pc := 322) (n := 5) dX9_lays_322 ?_
              refine sm_iastore (pc := 324) dX9_lays_324 ?_
              refine sm_iinc (pc := 325) (n := 4) dX9_lays_325 zc_i_1 ?_
              refine sm_goto (pc := 328) (tgt := 236) dX9_lays_328 (by decide) ?_
              exact hr236
            · skip
              refine sm_iload (pc := 269) (n := 5) dX9_lays_269 ?_
              refine sm_aload_n (pc := 271) (n := 0) dX9_lays_271 rfl ?_
              refine sm_getfieldR (pc := 272) (ci := 9) (n := 38) (C := RX9) (T := TX9) (N := 63) rfl rfl inz9 rfl (by decide) rfl wd_1056 rfl dX9_lays_272 ?_
              refine sm_bipush (pc := 275) dX9_lays_275 zc_b_11 ?_
              refine sm_iload (pc := 277) (n := 6) dX9_lays_277 ?_
              refine sm_imul (pc := 279) dX9_lays_279 ?_
              refine sm_aload_n (pc := 280) (n := 0) dX9_lays_280 rfl ?_
              refine sm_getfieldR (pc := 281) (ci := 9) (n := 10) (C := RX9) (T := TX9) (N := 63) rfl rfl inz9 rfl (by decide) rfl wd_1028 rfl dX9_lays_281 ?_
              refine sm_iload_n (pc := 284) (n := 3) dX9_lays_284 rfl ?_
              refine sm_iaload (pc := 285) dX9_lays_285 ?_
              refine sm_iadd (pc := 286) dX9_lays_286 ?_
              refine sm_iaload (pc := 287) dX9_lays_287 ?_
              refine sm_aload_n (pc := 288) (n := 0) dX9_lays_288 rfl ?_
              refine sm_getfieldR (pc := 289) (ci := 9) (n := 14) (C := RX9) (T := TX9) (N := 63) rfl rfl inz9 rfl (by decide) rfl wd_1032 rfl dX9_lays_289 ?_
              refine sm_bipush (pc := 292) dX9_lays_292 zc_b_11 ?_
              refine sm_iload (pc := 294) (n := 6) dX9_lays_294 ?_
              refine sm_imul (pc := 296) dX9_lays_296 ?_
              refine sm_iload (pc := 297) (n := 4) dX9_lays_297 ?_
              refine sm_iadd (pc := 299) dX9_lays_299 ?_
              refine sm_iaload (pc := 300) dX9_lays_300 ?_
              refine sm_imul (pc := 301) dX9_lays_301 ?_
              refine sm_iadd (pc := 302) dX9_lays_302 ?_
              refine sm_istore (pc := 303) (n := 5) dX9_lays_303 ?_
              refine sm_iinc (pc := 305) (n := 6) dX9_lays_305 zc_i_1 ?_
              refine sm_goto (pc := 308) (tgt := 260) dX9_lays_308 (by decide) ?_
              exact hr260
    · skip
      refine sm_iconst (pc := 73) dX9_lays_73 zc_i_0 ?_
      refine sm_istore (pc := 74) (n := 4) dX9_lays_74 ?_
      refine sm_loop (fun r76 hr76 => ?_) _
      refine sm_iload (pc := 76) (n := 4) dX9_lays_76 ?_
      refine sm_aload_n (pc := 78) (n := 0) dX9_lays_78 rfl ?_
      refine sm_getfieldI (pc := 79) (ci := 9) (n := 2) (C := RX9) (T := TX9) (N := 63) rfl rfl inz9 rfl (by decide) rfl wd_1020 rfl dX9_lays_79 ?_
      refine sm_icmp_ge (pc := 82) (tgt := 115) dX9_lays_82 (by decide) ?_ ?_
      · skip
        refine sm_aload_n (pc := 115) (n := 0) dX9_lays_115 rfl ?_
        refine sm_iload_n (pc := 116) (n := 3) dX9_lays_116 rfl ?_
        refine sm_putI (pc := 117) (ci := 9) (n := 25) (ty := tyX9 25) rfl (by decide) rfl rfl (zput (C := RX9) (T := TX9) (N := 63) (ty0 := tyX9) (ty := tyX9 25) inz9 tyX9_ok nmX9 rfl (by decide) wd_1043 rfl rfl dX9_lays_117) ?_
        refine sm_aload_n (pc := 120) (n := 0) dX9_lays_120 rfl ?_
        refine sm_getfieldR (pc := 121) (ci := 9) (n := 20) (C := RX9) (T := TX9) (N := 63) rfl rfl inz9 rfl (by decide) rfl wd_1038 rfl dX9_lays_121 ?_
        refine sm_iload_n (pc := 124) (n := 3) dX9_lays_124 rfl ?_
        refine sm_aload_n (pc := 125) (n := 0) dX9_lays_125 rfl ?_
        refine sm_getfieldI (pc := 126) (ci := 9) (n := 23) (C := RX9) (T := TX9) (N := 63) rfl rfl inz9 rfl (by decide) rfl wd_1041 rfl dX9_lays_126 ?_
        refine sm_iastore (pc := 129) dX9_lays_129 ?_
        refine sm_aload_n (pc := 130) (n := 0) dX9_lays_130 rfl ?_
        refine sm_iconst (pc := 131) dX9_lays_131 zc_i_0 ?_
        refine sm_iconst (pc := 132) dX9_lays_132 zc_i_0 ?_
        refine sm_cV (pc := 133) (ci := 9) (n := 3) (mc := 0) (ms := 0) rfl m_X9_fills (zrunV (n := 2) (ci := 9) rfl rfl wd_951 wd_14 wd_948 wd_950 ws_60 (by decide) (by decide) (by decide) dX9_lays_133) ?_
        refine sm_aload_n (pc := 136) (n := 0) dX9_lays_136 rfl ?_
        refine sm_getfieldR (pc := 137) (ci := 9) (n := 21) (C := RX9) (T := TX9) (N := 63) rfl rfl inz9 rfl (by decide) rfl wd_1039 rfl dX9_lays_137 ?_
        refine sm_iload_n (pc := 140) (n := 3) dX9_lays_140 rfl ?_
        refine sm_aload_n (pc := 141) (n := 0) dX9_lays_141 rfl ?_
        refine sm_getfieldI (pc := 142) (ci := 9) (n := 23) (C := RX9) (T := TX9) (N := 63) rfl rfl inz9 rfl (by decide) rfl wd_1041 rfl dX9_lays_142 ?_
        refine sm_aload_n (pc := 145) (n := 0) dX9_lays_145 rfl ?_
        refine sm_getfieldR (pc := 146) (ci := 9) (n := 20) (C := RX9) (T := TX9) (N := 63) rfl rfl inz9 rfl (by decide) rfl wd_1038 rfl dX9_lays_146 ?_
        refine sm_iload_n (pc := 149) (n := 3) dX9_lays_149 rfl ?_
        refine sm_iaload (pc := 150) dX9_lays_150 ?_
        refine sm_isub (pc := 151) dX9_lays_151 ?_
        refine sm_iastore (pc := 152) dX9_lays_152 ?_
        refine sm_aload_n (pc := 153) (n := 0) dX9_lays_153 rfl ?_
        refine sm_iload_n (pc := 154) (n := 3) dX9_lays_154 rfl ?_
        refine sm_cV (pc := 155) (ci := 9) (n := 2) (mc := 0) (ms := 0) rfl m_X9_forms (zrunV (n := 1) (ci := 9) rfl rfl wd_963 wd_14 wd_960 wd_962 ws_63 (by decide) (by decide) (by decide) dX9_lays_155) ?_
        refine sm_iconst (pc := 158) dX9_lays_158 zc_i_0 ?_
        refine sm_istore (pc := 159) (n := 4) dX9_lays_159 ?_
        refine sm_loop (fun r161 hr161 => ?_) _
        refine sm_iload (pc := 161) (n := 4) dX9_lays_161 ?_
        refine sm_aload_n (pc := 163) (n := 0) dX9_lays_163 rfl ?_
        refine sm_getfieldI (pc := 164) (ci := 9) (n := 2) (C := RX9) (T := TX9) (N := 63) rfl rfl inz9 rfl (by decide) rfl wd_1020 rfl dX9_lays_164 ?_
        refine sm_join (pc := 167) (pc' := 213) ?_ (fun j213 hj213 => ?_)
        · skip
          refine sm_iinc (pc := 213) (n := 3) dX9_lays_213 zc_i_1 ?_
          refine sm_goto (pc := 216) (tgt := 65) dX9_lays_216 (by decide) ?_
          exact hr65
        refine sm_icmp_ge (pc := 167) (tgt := 213) dX9_lays_167 (by decide) ?_ ?_
        · skip
          exact hj213
        · skip
          refine sm_aload_n (pc := 170) (n := 0) dX9_lays_170 rfl ?_
          refine sm_getfieldR (pc := 171) (ci := 9) (n := 7) (C := RX9) (T := TX9) (N := 63) rfl rfl inz9 rfl (by decide) rfl wd_1025 rfl dX9_lays_171 ?_
          refine sm_iload_n (pc := 174) (n := 3) dX9_lays_174 rfl ?_
          refine sm_baload (pc := 175) dX9_lays_175 ?_
          refine sm_if_eq (pc := 176) (tgt := 213) dX9_lays_176 (by decide) ?_ ?_
          · skip
            exact hj213
          · skip
            refine sm_aload_n (pc := 179) (n := 0) dX9_lays_179 rfl ?_
            refine sm_getfieldR (pc := 180) (ci := 9) (n := 8) (C := RX9) (T := TX9) (N := 63) rfl rfl inz9 rfl (by decide) rfl wd_1026 rfl dX9_lays_180 ?_
            refine sm_iload (pc := 183) (n := 4) dX9_lays_183 ?_
            refine sm_baload (pc := 185) dX9_lays_185 ?_
            refine sm_join (pc := 186) (pc' := 207) ?_ (fun j207 hj207 => ?_)
            · skip
              refine sm_iinc (pc := 207) (n := 4) dX9_lays_207 zc_i_1 ?_
              refine sm_goto (pc := 210) (tgt := 161) dX9_lays_210 (by decide) ?_
              exact hr161
            refine sm_if_eq (pc := 186) (tgt := 207) dX9_lays_186 (by decide) ?_ ?_
            · skip
              exact hj207
            · skip
              refine sm_aload_n (pc := 189) (n := 0) dX9_lays_189 rfl ?_
              refine sm_getfieldR (pc := 190) (ci := 9) (n := 37) (C := RX9) (T := TX9) (N := 63) rfl rfl inz9 rfl (by decide) rfl wd_1055 rfl dX9_lays_190 ?_
              refine sm_bipush (pc := 193) dX9_lays_193 zc_b_11 ?_
              refine sm_iload_n (pc := 195) (n := 3) dX9_lays_195 rfl ?_
              refine sm_imul (pc := 196) dX9_lays_196 ?_
              refine sm_iload (pc := 197) (n := 4) dX9_lays_197 ?_
              refine sm_iadd (pc := 199) dX9_lays_199 ?_
              refine sm_aload_n (pc := 200) (n := 0) dX9_lays_200 rfl ?_
              refine sm_iload (pc := 201) (n := 4) dX9_lays_201 ?_
              refine sm_cV (pc := 203) (ci := 9) (n := 2) (mc := 0) (ms := 0) rfl m_X9_modularOf (zrunV (n := 1) (ci := 9) rfl rfl wd_998 wd_14 wd_995 wd_997 ws_71 (by decide) (by decide) (by decide) dX9_lays_203) ?_
              refine sm_iastore (pc := 206) dX9_lays_206 ?_
              exact hj207
      · skip
        refine sm_aload_n (pc := 85) (n := 0) dX9_lays_85 rfl ?_
        refine sm_getfieldR (pc := 86) (ci := 9) (n := 14) (C := RX9) (T := TX9) (N := 63) rfl rfl inz9 rfl (by decide) rfl wd_1032 rfl dX9_lays_86 ?_
        refine sm_bipush (pc := 89) dX9_lays_89 zc_b_11 ?_
        refine sm_iload_n (pc := 91) (n := 3) dX9_lays_91 rfl ?_
        refine sm_imul (pc := 92) dX9_lays_92 ?_
        refine sm_iload (pc := 93) (n := 4) dX9_lays_93 ?_
        refine sm_iadd (pc := 95) dX9_lays_95 ?_
        refine sm_aload_n (pc := 96) (n := 0) dX9_lays_96 rfl ?_
        refine sm_aload_n (pc := 97) (n := 0) dX9_lays_97 rfl ?_
        refine sm_iload_n (pc := 98) (n := 3) dX9_lays_98 rfl ?_
        refine sm_cV (pc := 99) (ci := 9) (n := 2) (mc := 0) (ms := 0) rfl m_X9_beadsOf (zrunV (n := 1) (ci := 9) rfl rfl wd_940 wd_14 wd_937 wd_939 ws_58 (by decide) (by decide) (by decide) dX9_lays_99) ?_
        refine sm_iload (pc := 102) (n := 4) dX9_lays_102 ?_
        refine sm_iconst (pc := 104) dX9_lays_104 zc_i_0 ?_
        refine sm_cV (pc := 105) (ci := 9) (n := 4) (mc := 0) (ms := 0) rfl m_X9_charOf (zrunV (n := 3) (ci := 9) rfl rfl wd_944 wd_14 wd_941 wd_943 ws_59 (by decide) (by decide) (by decide) dX9_lays_105) ?_
        refine sm_iastore (pc := 108) dX9_lays_108 ?_
        refine sm_iinc (pc := 109) (n := 4) dX9_lays_109 zc_i_1 ?_
        refine sm_goto (pc := 112) (tgt := 76) dX9_lays_112 (by decide) ?_
        exact hr76
  · skip
    refine sm_aload_n (pc := 50) (n := 0) dX9_lays_50 rfl ?_
    refine sm_getfieldR (pc := 51) (ci := 9) (n := 39) (C := RX9) (T := TX9) (N := 63) rfl rfl inz9 rfl (by decide) rfl wd_1057 rfl dX9_lays_51 ?_
    refine sm_iload_n (pc := 54) (n := 3) dX9_lays_54 rfl ?_
    refine sm_iconst (pc := 55) dX9_lays_55 zc_i_0 ?_
    refine sm_iastore (pc := 56) dX9_lays_56 ?_
    refine sm_iinc (pc := 57) (n := 3) dX9_lays_57 zc_i_1 ?_
    refine sm_goto (pc := 60) (tgt := 43) dX9_lays_60 (by decide) ?_
    exact hr43
noncomputable def f_X9_lays {d : Nat} : List zV → zH d → zP d → Bool := zfn 7 b_X9_lays
theorem m_X9_lays {d : Nat} : zMet (d := d) X_X9_lays yX9_lays 20 f_X9_lays := zmet_mk (X := X_X9_lays) (by decide) rfl rfl s_X9_lays

abbrev X_X9_init : zM := (RX9, cX9_init, 1, none, "<init>")
noncomputable def b_X9_init {d : Nat} (P : zP d) : zK d := (xald 0 (xobj (xald 0 (xpI 66 (xnwa 0 (xpfR 25 3 (xald 0 (xpI 11 (xnwa 0 (xpfR 25 4 (xald 0 (xpI 11 (xnwa 0 (xpfR 25 5 (xald 0 (xpI 11 (xnwa 0 (xpfR 25 6 (xald 0 (xpI 11 (xnwa 1 (xpfR 25 7 (xald 0 (xpI 11 (xnwa 1 (xpfR 25 8 (xald 0 (xpI 11 (xnwa 0 (xpfR 25 9 (xald 0 (xpI 11 (xnwa 0 (xpfR 25 10 (xald 0 (xpI 6 (xnwa 0 (xpfR 25 13 (xald 0 (xpI 121 (xnwa 0 (xpfR 25 14 (xald 0 (xpI 11 (xnwa 0 (xpfR 25 15 (xald 0 (xpI 11 (xnwa 0 (xpfR 25 16 (xald 0 (xpI 11 (xnwa 0 (xpfR 25 17 (xald 0 (xpI 11 (xnwa 0 (xpfR 25 19 (xald 0 (xpI 11 (xnwa 0 (xpfR 25 20 (xald 0 (xpI 11 (xnwa 0 (xpfR 25 21 (xald 0 (xpI 456 (xnwa 0 (xpfR 25 22 (xald 0 (xpI 6 (xnwa 0 (xpfR 25 24 (xald 0 (xpI 46656 (xnwa 0 (xpfR 25 26 (xald 0 (xpI 720 (xnwa 0 (xpfR 25 27 (xald 0 (xpI 12000 (xnwa 0 (xpfR 25 29 (xald 0 (xpI 12000 (xnwa 0 (xpfR 25 30 (xald 0 (xpI 6 (xnwa 0 (xpfR 25 31 (xald 0 (xpI 7 (xnwa 0 (xpfR 25 32 (xald 0 (xpI 7 (xnwa 0 (xpfR 25 33 (xald 0 (xpI 256 (xnwa 0 (xpfR 25 34 (xald 0 (xpI 2816 (xnwa 0 (xpfR 25 35 (xald 0 (xpI 11 (xnwa 0 (xpfR 25 36 (xald 0 (xpI 121 (xnwa 0 (xpfR 25 37 (xald 0 (xpI 121 (xnwa 0 (xpfR 25 38 (xald 0 (xpI 242 (xnwa 0 (xpfR 25 39 (xald 0 (xpI 121 (xnwa 0 (xpfR 25 40 (xald 0 (xpI 121 (xnwa 2 (xpfR 25 41 (xald 0 (xpI 11 (xnwa 0 (xpfR 25 42 (xald 0 (xpI 66 (xnwa 2 (xpfR 25 43 (xald 0 (xpI 11 (xnwa 2 (xpfR 25 44 (xald 0 (xpI 200 (xnwa 0 (xpfR 25 45 (xald 0 (xpI 4294967295 (xpfI 25 49 (xald 0 (xpI 20 (xnwa 0 (xpfR 25 51 (xald 0 (xpI 20 (xnwa 0 (xpfR 25 52 (xald 0 (xpI 55 (xnwa 2 (xpfR 25 56 (xald 0 (xpI 55 (xnwa 2 (xpfR 25 57 (xald 0 (xpI 11 (xnwa 2 (xpfR 25 58 (xald 0 (xpI 6 (xnwa 0 (xpfR 25 60 (xald 0 (xpI 6 (xnwa 0 (xpfR 25 62 (xald 0 (xpI 3 (xpI 2 (xcV 25 3 0 0 f_X9_lays (xvret P))))))))))))))))))))))))))))))))))))))))))))))))))))))))))))))))))))))))))))))))))))))))))))))))))))))))))))))))))))))))))))))))))))))))))))))))))))))))))))))))))))))))))))))))))))))))))
set_option maxRecDepth 100000 in
set_option maxHeartbeats 4000000 in
theorem s_X9_init {d : Nat} (P : zP d) : zSim X_X9_init 21 P 0 (b_X9_init P) := by
  unfold b_X9_init
  refine sm_aload_n (pc := 0) (n := 0) dX9_init_0 rfl ?_
  refine sm_objinit (pc := 1) wd_907 wd_21 wd_22 (by decide) dX9_init_1 ?_
  refine sm_aload_n (pc := 4) (n := 0) dX9_init_4 rfl ?_
  refine sm_bipush (pc := 5) dX9_init_5 zc_b_66 ?_
  refine sm_newI (pc := 7) dX9_init_7 wd_46 ?_
  refine sm_putR (pc := 9) (ci := 9) (n := 3) (ty := tyX9 3) rfl (by decide) rfl rfl (zputF (C := RX9) (T := TX9) (N := 63) (ty0 := tyX9) (ty := tyX9 3) inz9 tyX9_ok nmX9 rfl (by decide) wd_1021 rfl rfl rfl rfl dX9_init_9) ?_
  refine sm_aload_n (pc := 12) (n := 0) dX9_init_12 rfl ?_
  refine sm_bipush (pc := 13) dX9_init_13 zc_b_11 ?_
  refine sm_newI (pc := 15) dX9_init_15 wd_46 ?_
  refine sm_putR (pc := 17) (ci := 9) (n := 4) (ty := tyX9 4) rfl (by decide) rfl rfl (zputF (C := RX9) (T := TX9) (N := 63) (ty0 := tyX9) (ty := tyX9 4) inz9 tyX9_ok nmX9 rfl (by decide) wd_1022 rfl rfl rfl rfl dX9_init_17) ?_
  refine sm_aload_n (pc := 20) (n := 0) dX9_init_20 rfl ?_
  refine sm_bipush (pc := 21) dX9_init_21 zc_b_11 ?_
  refine sm_newI (pc := 23) dX9_init_23 wd_46 ?_
  refine sm_putR (pc := 25) (ci := 9) (n := 5) (ty := tyX9 5) rfl (by decide) rfl rfl (zputF (C := RX9) (T := TX9) (N := 63) (ty0 := tyX9) (ty := tyX9 5) inz9 tyX9_ok nmX9 rfl (by decide) wd_1023 rfl rfl rfl rfl dX9_init_25) ?_
  refine sm_aload_n (pc := 28) (n := 0) dX9_init_28 rfl ?_
  refine sm_bipush (pc := 29) dX9_init_29 zc_b_11 ?_
  refine sm_newI (pc := 31) dX9_init_31 wd_46 ?_
  refine sm_putR (pc := 33) (ci := 9) (n := 6) (ty := tyX9 6) rfl (by decide) rfl rfl (zputF (C := RX9) (T := TX9) (N := 63) (ty0 := tyX9) (ty := tyX9 6) inz9 tyX9_ok nmX9 rfl (by decide) wd_1024 rfl rfl rfl rfl dX9_init_33) ?_
  refine sm_aload_n (pc := 36) (n := 0) dX9_init_36 rfl ?_
  refine sm_bipush (pc := 37) dX9_init_37 zc_b_11 ?_
  refine sm_newZ (pc := 39) dX9_init_39 wd_360 ?_
  refine sm_putR (pc := 41) (ci := 9) (n := 7) (ty := tyX9 7) rfl (by decide) rfl rfl (zputF (C := RX9) (T := TX9) (N := 63) (ty0 := tyX9) (ty := tyX9 7) inz9 tyX9_ok nmX9 rfl (by decide) wd_1025 rfl rfl rfl rfl dX9_init_41) ?_
  refine sm_aload_n (pc := 44) (n := 0) dX9_init_44 rfl ?_
  refine sm_bipush (pc := 45) dX9_init_45 zc_b_11 ?_
  refine sm_newZ (pc := 47) dX9_init_47 wd_360 ?_
  refine sm_putR (pc := 49) (ci := 9) (n := 8) (ty := tyX9 8) rfl (by decide) rfl rfl (zputF (C := RX9) (T := TX9) (N := 63) (ty0 := tyX9) (ty := tyX9 8) inz9 tyX9_ok nmX9 rfl (by decide) wd_1026 rfl rfl rfl rfl dX9_init_49) ?_
  refine sm_aload_n (pc := 52) (n := 0) dX9_init_52 rfl ?_
  refine sm_bipush (pc := 53) dX9_init_53 zc_b_11 ?_
  refine sm_newI (pc := 55) dX9_init_55 wd_46 ?_
  refine sm_putR (pc := 57) (ci := 9) (n := 9) (ty := tyX9 9) rfl (by decide) rfl rfl (zputF (C := RX9) (T := TX9) (N := 63) (ty0 := tyX9) (ty := tyX9 9) inz9 tyX9_ok nmX9 rfl (by decide) wd_1027 rfl rfl rfl rfl dX9_init_57) ?_
  refine sm_aload_n (pc := 60) (n := 0) dX9_init_60 rfl ?_
  refine sm_bipush (pc := 61) dX9_init_61 zc_b_11 ?_
  refine sm_newI (pc := 63) dX9_init_63 wd_46 ?_
  refine sm_putR (pc := 65) (ci := 9) (n := 10) (ty := tyX9 10) rfl (by decide) rfl rfl (zputF (C := RX9) (T := TX9) (N := 63) (ty0 := tyX9) (ty := tyX9 10) inz9 tyX9_ok nmX9 rfl (by decide) wd_1028 rfl rfl rfl rfl dX9_init_65) ?_
  refine sm_aload_n (pc := 68) (n := 0) dX9_init_68 rfl ?_
  refine sm_bipush (pc := 69) dX9_init_69 zc_b_6 ?_
  refine sm_newI (pc := 71) dX9_init_71 wd_46 ?_
  refine sm_putR (pc := 73) (ci := 9) (n := 13) (ty := tyX9 13) rfl (by decide) rfl rfl (zputF (C := RX9) (T := TX9) (N := 63) (ty0 := tyX9) (ty := tyX9 13) inz9 tyX9_ok nmX9 rfl (by decide) wd_1031 rfl rfl rfl rfl dX9_init_73) ?_
  refine sm_aload_n (pc := 76) (n := 0) dX9_init_76 rfl ?_
  refine sm_bipush (pc := 77) dX9_init_77 zc_b_121 ?_
  refine sm_newI (pc := 79) dX9_init_79 wd_46 ?_
  refine sm_putR (pc := 81) (ci := 9) (n := 14) (ty := tyX9 14) rfl (by decide) rfl rfl (zputF (C := RX9) (T := TX9) (N := 63) (ty0 := tyX9) (ty := tyX9 14) inz9 tyX9_ok nmX9 rfl (by decide) wd_1032 rfl rfl rfl rfl dX9_init_81) ?_
  refine sm_aload_n (pc := 84) (n := 0) dX9_init_84 rfl ?_
  refine sm_bipush (pc := 85) dX9_init_85 zc_b_11 ?_
  refine sm_newI (pc := 87) dX9_init_87 wd_46 ?_
  refine sm_putR (pc := 89) (ci := 9) (n := 15) (ty := tyX9 15) rfl (by decide) rfl rfl (zputF (C := RX9) (T := TX9) (N := 63) (ty0 := tyX9) (ty := tyX9 15) inz9 tyX9_ok nmX9 rfl (by decide) wd_1033 rfl rfl rfl rfl dX9_init_89) ?_
  refine sm_aload_n (pc := 92) (n := 0) dX9_init_92 rfl ?_
  refine sm_bipush (pc := 93) dX9_init_93 zc_b_11 ?_
  refine sm_newI (pc := 95) dX9_init_95 wd_46 ?_
  refine sm_putR (pc := 97) (ci := 9) (n := 16) (ty := tyX9 16) rfl (by decide) rfl rfl (zputF (C := RX9) (T := TX9) (N := 63) (ty0 := tyX9) (ty := tyX9 16) inz9 tyX9_ok nmX9 rfl (by decide) wd_1034 rfl rfl rfl rfl dX9_init_97) ?_
  refine sm_aload_n (pc := 100) (n := 0) dX9_init_100 rfl ?_
  refine sm_bipush (pc := 101) dX9_init_101 zc_b_11 ?_
  refine sm_newI (pc := 103) dX9_init_103 wd_46 ?_
  refine sm_putR (pc := 105) (ci := 9) (n := 17) (ty := tyX9 17) rfl (by decide) rfl rfl (zputF (C := RX9) (T := TX9) (N := 63) (ty0 := tyX9) (ty := tyX9 17) inz9 tyX9_ok nmX9 rfl (by decide) wd_1035 rfl rfl rfl rfl dX9_init_105) ?_
  refine sm_aload_n (pc := 108) (n := 0) dX9_init_108 rfl ?_
  refine sm_bipush (pc := 109) dX9_init_109 zc_b_11 ?_
  refine sm_newI (pc := 111) dX9_init_111 wd_46 ?_
  refine sm_putR (pc := 113) (ci := 9) (n := 19) (ty := tyX9 19) rfl (by decide) rfl rfl (zputF (C := RX9) (T := TX9) (N := 63) (ty0 := tyX9) (ty := tyX9 19) inz9 tyX9_ok nmX9 rfl (by decide) wd_1037 rfl rfl rfl rfl dX9_init_113) ?_
  refine sm_aload_n (pc := 116) (n := 0) dX9_init_116 rfl ?_
  refine sm_bipush (pc := 117) dX9_init_117 zc_b_11 ?_
  refine sm_newI (pc := 119) dX9_init_119 wd_46 ?_
  refine sm_putR (pc := 121) (ci := 9) (n := 20) (ty := tyX9 20) rfl (by decide) rfl rfl (zputF (C := RX9) (T := TX9) (N := 63) (ty0 := tyX9) (ty := tyX9 20) inz9 tyX9_ok nmX9 rfl (by decide) wd_1038 rfl rfl rfl rfl dX9_init_121) ?_
  refine sm_aload_n (pc := 124) (n := 0) dX9_init_124 rfl ?_
  refine sm_bipush (pc := 125) dX9_init_125 zc_b_11 ?_
  refine sm_newI (pc := 127) dX9_init_127 wd_46 ?_
  refine sm_putR (pc := 129) (ci := 9) (n := 21) (ty := tyX9 21) rfl (by decide) rfl rfl (zputF (C := RX9) (T := TX9) (N := 63) (ty0 := tyX9) (ty := tyX9 21) inz9 tyX9_ok nmX9 rfl (by decide) wd_1039 rfl rfl rfl rfl dX9_init_129) ?_
  refine sm_aload_n (pc := 132) (n := 0) dX9_init_132 rfl ?_
  refine sm_sipush (pc := 133) dX9_init_133 zc_s_456 ?_
  refine sm_newI (pc := 136) dX9_init_136 wd_46 ?_
  refine sm_putR (pc := 138) (ci := 9) (n := 22) (ty := tyX9 22) rfl (by decide) rfl rfl (zputF (C := RX9) (T := TX9) (N := 63) (ty0 := tyX9) (ty := tyX9 22) inz9 tyX9_ok nmX9 rfl (by decide) wd_1040 rfl rfl rfl rfl dX9_init_138) ?_
  refine sm_aload_n (pc := 141) (n := 0) dX9_init_141 rfl ?_
  refine sm_bipush (pc := 142) dX9_init_142 zc_b_6 ?_
  refine sm_newI (pc := 144) dX9_init_144 wd_46 ?_
  refine sm_putR (pc := 146) (ci := 9) (n := 24) (ty := tyX9 24) rfl (by decide) rfl rfl (zputF (C := RX9) (T := TX9) (N := 63) (ty0 := tyX9) (ty := tyX9 24) inz9 tyX9_ok nmX9 rfl (by decide) wd_1042 rfl rfl rfl rfl dX9_init_146) ?_
  refine sm_aload_n (pc := 149) (n := 0) dX9_init_149 rfl ?_
  refine sm_ldc (pc := 150) dX9_init_150 wd_908 zc_c_46656 ?_
  refine sm_newI (pc := 152) dX9_init_152 wd_46 ?_
  refine sm_putR (pc := 154) (ci := 9) (n := 26) (ty := tyX9 26) rfl (by decide) rfl rfl (zputF (C := RX9) (T := TX9) (N := 63) (ty0 := tyX9) (ty := tyX9 26) inz9 tyX9_ok nmX9 rfl (by decide) wd_1044 rfl rfl rfl rfl dX9_init_154) ?_
  refine sm_aload_n (pc := 157) (n := 0) dX9_init_157 rfl ?_
  refine sm_sipush (pc := 158) dX9_init_158 zc_s_720 ?_
  refine sm_newI (pc := 161) dX9_init_161 wd_46 ?_
  refine sm_putR (pc := 163) (ci := 9) (n := 27) (ty := tyX9 27) rfl (by decide) rfl rfl (zputF (C := RX9) (T := TX9) (N := 63) (ty0 := tyX9) (ty := tyX9 27) inz9 tyX9_ok nmX9 rfl (by decide) wd_1045 rfl rfl rfl rfl dX9_init_163) ?_
  refine sm_aload_n (pc := 166) (n := 0) dX9_init_166 rfl ?_
  refine sm_sipush (pc := 167) dX9_init_167 zc_s_12000 ?_
  refine sm_newI (pc := 170) dX9_init_170 wd_46 ?_
  refine sm_putR (pc := 172) (ci := 9) (n := 29) (ty := tyX9 29) rfl (by decide) rfl rfl (zputF (C := RX9) (T := TX9) (N := 63) (ty0 := tyX9) (ty := tyX9 29) inz9 tyX9_ok nmX9 rfl (by decide) wd_1047 rfl rfl rfl rfl dX9_init_172) ?_
  refine sm_aload_n (pc := 175) (n := 0) dX9_init_175 rfl ?_
  refine sm_sipush (pc := 176) dX9_init_176 zc_s_12000 ?_
  refine sm_newI (pc := 179) dX9_init_179 wd_46 ?_
  refine sm_putR (pc := 181) (ci := 9) (n := 30) (ty := tyX9 30) rfl (by decide) rfl rfl (zputF (C := RX9) (T := TX9) (N := 63) (ty0 := tyX9) (ty := tyX9 30) inz9 tyX9_ok nmX9 rfl (by decide) wd_1048 rfl rfl rfl rfl dX9_init_181) ?_
  refine sm_aload_n (pc := 184) (n := 0) dX9_init_184 rfl ?_
  refine sm_bipush (pc := 185) dX9_init_185 zc_b_6 ?_
  refine sm_newI (pc := 187) dX9_init_187 wd_46 ?_
  refine sm_putR (pc := 189) (ci := 9) (n := 31) (ty := tyX9 31) rfl (by decide) rfl rfl (zputF (C := RX9) (T := TX9) (N := 63) (ty0 := tyX9) (ty := tyX9 31) inz9 tyX9_ok nmX9 rfl (by decide) wd_1049 rfl rfl rfl rfl dX9_init_189) ?_
  refine sm_aload_n (pc := 192) (n := 0) dX9_init_192 rfl ?_
  refine sm_bipush (pc := 193) dX9_init_193 zc_b_7 ?_
  refine sm_newI (pc := 195) dX9_init_195 wd_46 ?_
  refine sm_putR (pc := 197) (ci := 9) (n := 32) (ty := tyX9 32) rfl (by decide) rfl rfl (zputF (C := RX9) (T := TX9) (N := 63) (ty0 := tyX9) (ty := tyX9 32) inz9 tyX9_ok nmX9 rfl (by decide) wd_1050 rfl rfl rfl rfl dX9_init_197) ?_
  refine sm_aload_n (pc := 200) (n := 0) dX9_init_200 rfl ?_
  refine sm_bipush (pc := 201) dX9_init_201 zc_b_7 ?_
  refine sm_newI (pc := 203) dX9_init_203 wd_46 ?_
  refine sm_putR (pc := 205) (ci := 9) (n := 33) (ty := tyX9 33) rfl (by decide) rfl rfl (zputF (C := RX9) (T := TX9) (N := 63) (ty0 := tyX9) (ty := tyX9 33) inz9 tyX9_ok nmX9 rfl (by decide) wd_1051 rfl rfl rfl rfl dX9_init_205) ?_
  refine sm_aload_n (pc := 208) (n := 0) dX9_init_208 rfl ?_
  refine sm_sipush (pc := 209) dX9_init_209 zc_s_256 ?_
  refine sm_newI (pc := 212) dX9_init_212 wd_46 ?_
  refine sm_putR (pc := 214) (ci := 9) (n := 34) (ty := tyX9 34) rfl (by decide) rfl rfl (zputF (C := RX9) (T := TX9) (N := 63) (ty0 := tyX9) (ty := tyX9 34) inz9 tyX9_ok nmX9 rfl (by decide) wd_1052 rfl rfl rfl rfl dX9_init_214) ?_
  refine sm_aload_n (pc := 217) (n := 0) dX9_init_217 rfl ?_
  refine sm_sipush (pc := 218) dX9_init_218 zc_s_2816 ?_
  refine sm_newI (pc := 221) dX9_init_221 wd_46 ?_
  refine sm_putR (pc := 223) (ci := 9) (n := 35) (ty := tyX9 35) rfl (by decide) rfl rfl (zputF (C := RX9) (T := TX9) (N := 63) (ty0 := tyX9) (ty := tyX9 35) inz9 tyX9_ok nmX9 rfl (by decide) wd_1053 rfl rfl rfl rfl dX9_init_223) ?_
  refine sm_aload_n (pc := 226) (n := 0) dX9_init_226 rfl ?_
  refine sm_bipush (pc := 227) dX9_init_227 zc_b_11 ?_
  refine sm_newI (pc := 229) dX9_init_229 wd_46 ?_
  refine sm_putR (pc := 231) (ci := 9) (n := 36) (ty := tyX9 36) rfl (by decide) rfl rfl (zputF (C := RX9) (T := TX9) (N := 63) (ty0 := tyX9) (ty := tyX9 36) inz9 tyX9_ok nmX9 rfl (by decide) wd_1054 rfl rfl rfl rfl dX9_init_231) ?_
  refine sm_aload_n (pc := 234) (n := 0) dX9_init_234 rfl ?_
  refine sm_bipush (pc := 235) dX9_init_235 zc_b_121 ?_
  refine sm_newI (pc := 237) dX9_init_237 wd_46 ?_
  refine sm_putR (pc := 239) (ci := 9) (n := 37) (ty := tyX9 37) rfl (by decide) rfl rfl (zputF (C := RX9) (T := TX9) (N := 63) (ty0 := tyX9) (ty := tyX9 37) inz9 tyX9_ok nmX9 rfl (by decide) wd_1055 rfl rfl rfl rfl dX9_init_239) ?_
  refine sm_aload_n (pc := 242) (n := 0) dX9_init_242 rfl ?_
  refine sm_bipush (pc := 243) dX9_init_243 zc_b_121 ?_
  refine sm_newI (pc := 245) dX9_init_245 wd_46 ?_
  refine sm_putR (pc := 247) (ci := 9) (n := 38) (ty := tyX9 38) rfl (by decide) rfl rfl (zputF (C := RX9) (T := TX9) (N := 63) (ty0 := tyX9) (ty := tyX9 38) inz9 tyX9_ok nmX9 rfl (by decide) wd_1056 rfl rfl rfl rfl dX9_init_247) ?_
  refine sm_aload_n (pc := 250) (n := 0) dX9_init_250 rfl ?_
  refine sm_sipush (pc := 251) dX9_init_251 zc_s_242 ?_
  refine sm_newI (pc := 254) dX9_init_254 wd_46 ?_
  refine sm_putR (pc := 256) (ci := 9) (n := 39) (ty := tyX9 39) rfl (by decide) rfl rfl (zputF (C := RX9) (T := TX9) (N := 63) (ty0 := tyX9) (ty := tyX9 39) inz9 tyX9_ok nmX9 rfl (by decide) wd_1057 rfl rfl rfl rfl dX9_init_256) ?_
  refine sm_aload_n (pc := 259) (n := 0) dX9_init_259 rfl ?_
  refine sm_bipush (pc := 260) dX9_init_260 zc_b_121 ?_
  refine sm_newI (pc := 262) dX9_init_262 wd_46 ?_
  refine sm_putR (pc := 264) (ci := 9) (n := 40) (ty := tyX9 40) rfl (by decide) rfl rfl (zputF (C := RX9) (T := TX9) (N := 63) (ty0 := tyX9) (ty := tyX9 40) inz9 tyX9_ok nmX9 rfl (by decide) wd_1058 rfl rfl rfl rfl dX9_init_264) ?_
  refine sm_aload_n (pc := 267) (n := 0) dX9_init_267 rfl ?_
  refine sm_bipush (pc := 268) dX9_init_268 zc_b_121 ?_
  refine sm_newJ (pc := 270) dX9_init_270 wd_45 ?_
  refine sm_putR (pc := 272) (ci := 9) (n := 41) (ty := tyX9 41) rfl (by decide) rfl rfl (zputF (C := RX9) (T := TX9) (N := 63) (ty0 := tyX9) (ty := tyX9 41) inz9 tyX9_ok nmX9 rfl (by decide) wd_1059 rfl rfl rfl rfl dX9_init_272) ?_
  refine sm_aload_n (pc := 275) (n := 0) dX9_init_275 rfl ?_
  refine sm_bipush (pc := 276) dX9_init_276 zc_b_11 ?_
  refine sm_newI (pc := 278) dX9_init_278 wd_46 ?_
  refine sm_putR (pc := 280) (ci := 9) (n := 42) (ty := tyX9 42) rfl (by decide) rfl rfl (zputF (C := RX9) (T := TX9) (N := 63) (ty0 := tyX9) (ty := tyX9 42) inz9 tyX9_ok nmX9 rfl (by decide) wd_1060 rfl rfl rfl rfl dX9_init_280) ?_
  refine sm_aload_n (pc := 283) (n := 0) dX9_init_283 rfl ?_
  refine sm_bipush (pc := 284) dX9_init_284 zc_b_66 ?_
  refine sm_newJ (pc := 286) dX9_init_286 wd_45 ?_
  refine sm_putR (pc := 288) (ci := 9) (n := 43) (ty := tyX9 43) rfl (by decide) rfl rfl (zputF (C := RX9) (T := TX9) (N := 63) (ty0 := tyX9) (ty := tyX9 43) inz9 tyX9_ok nmX9 rfl (by decide) wd_1061 rfl rfl rfl rfl dX9_init_288) ?_
  refine sm_aload_n (pc := 291) (n := 0) dX9_init_291 rfl ?_
  refine sm_bipush (pc := 292) dX9_init_292 zc_b_11 ?_
  refine sm_newJ (pc := 294) dX9_init_294 wd_45 ?_
  refine sm_putR (pc := 296) (ci := 9) (n := 44) (ty := tyX9 44) rfl (by decide) rfl rfl (zputF (C := RX9) (T := TX9) (N := 63) (ty0 := tyX9) (ty := tyX9 44) inz9 tyX9_ok nmX9 rfl (by decide) wd_1062 rfl rfl rfl rfl dX9_init_296) ?_
  refine sm_aload_n (pc := 299) (n := 0) dX9_init_299 rfl ?_
  refine sm_sipush (pc := 300) dX9_init_300 zc_s_200 ?_
  refine sm_newI (pc := 303) dX9_init_303 wd_46 ?_
  refine sm_putR (pc := 305) (ci := 9) (n := 45) (ty := tyX9 45) rfl (by decide) rfl rfl (zputF (C := RX9) (T := TX9) (N := 63) (ty0 := tyX9) (ty := tyX9 45) inz9 tyX9_ok nmX9 rfl (by decide) wd_1063 rfl rfl rfl rfl dX9_init_305) ?_
  refine sm_aload_n (pc := 308) (n := 0) dX9_init_308 rfl ?_
  refine sm_iconst (pc := 309) dX9_init_309 zc_i_m1 ?_
  refine sm_putI (pc := 310) (ci := 9) (n := 49) (ty := tyX9 49) rfl (by decide) rfl rfl (zput (C := RX9) (T := TX9) (N := 63) (ty0 := tyX9) (ty := tyX9 49) inz9 tyX9_ok nmX9 rfl (by decide) wd_1067 rfl rfl dX9_init_310) ?_
  refine sm_aload_n (pc := 313) (n := 0) dX9_init_313 rfl ?_
  refine sm_bipush (pc := 314) dX9_init_314 zc_b_20 ?_
  refine sm_newI (pc := 316) dX9_init_316 wd_46 ?_
  refine sm_putR (pc := 318) (ci := 9) (n := 51) (ty := tyX9 51) rfl (by decide) rfl rfl (zputF (C := RX9) (T := TX9) (N := 63) (ty0 := tyX9) (ty := tyX9 51) inz9 tyX9_ok nmX9 rfl (by decide) wd_1069 rfl rfl rfl rfl dX9_init_318) ?_
  refine sm_aload_n (pc := 321) (n := 0) dX9_init_321 rfl ?_
  refine sm_bipush (pc := 322) dX9_init_322 zc_b_20 ?_
  refine sm_newI (pc := 324) dX9_init_324 wd_46 ?_
  refine sm_putR (pc := 326) (ci := 9) (n := 52) (ty := tyX9 52) rfl (by decide) rfl rfl (zputF (C := RX9) (T := TX9) (N := 63) (ty0 := tyX9) (ty := tyX9 52) inz9 tyX9_ok nmX9 rfl (by decide) wd_1070 rfl rfl rfl rfl dX9_init_326) ?_
  refine sm_aload_n (pc := 329) (n := 0) dX9_init_329 rfl ?_
  refine sm_bipush (pc := 330) dX9_init_330 zc_b_55 ?_
  refine sm_newJ (pc := 332) dX9_init_332 wd_45 ?_
  refine sm_putR (pc := 334) (ci := 9) (n := 56) (ty := tyX9 56) rfl (by decide) rfl rfl (zputF (C := RX9) (T := TX9) (N := 63) (ty0 := tyX9) (ty := tyX9 56) inz9 tyX9_ok nmX9 rfl (by decide) wd_1074 rfl rfl rfl rfl dX9_init_334) ?_
  refine sm_aload_n (pc := 337) (n := 0) dX9_init_337 rfl ?_
  refine sm_bipush (pc := 338) dX9_init_338 zc_b_55 ?_
  refine sm_newJ (pc := 340) dX9_init_340 wd_45 ?_
  refine sm_putR (pc := 342) (ci := 9) (n := 57) (ty := tyX9 57) rfl (by decide) rfl rfl (zputF (C := RX9) (T := TX9) (N := 63) (ty0 := tyX9) (ty := tyX9 57) inz9 tyX9_ok nmX9 rfl (by decide) wd_1075 rfl rfl rfl rfl dX9_init_342) ?_
  refine sm_aload_n (pc := 345) (n := 0) dX9_init_345 rfl ?_
  refine sm_bipush (pc := 346) dX9_init_346 zc_b_11 ?_
  refine sm_newJ (pc := 348) dX9_init_348 wd_45 ?_
  refine sm_putR (pc := 350) (ci := 9) (n := 58) (ty := tyX9 58) rfl (by decide) rfl rfl (zputF (C := RX9) (T := TX9) (N := 63) (ty0 := tyX9) (ty := tyX9 58) inz9 tyX9_ok nmX9 rfl (by decide) wd_1076 rfl rfl rfl rfl dX9_init_350) ?_
  refine sm_aload_n (pc := 353) (n := 0) dX9_init_353 rfl ?_
  refine sm_bipush (pc := 354) dX9_init_354 zc_b_6 ?_
  refine sm_newI (pc := 356) dX9_init_356 wd_46 ?_
  refine sm_putR (pc := 358) (ci := 9) (n := 60) (ty := tyX9 60) rfl (by decide) rfl rfl (zputF (C := RX9) (T := TX9) (N := 63) (ty0 := tyX9) (ty := tyX9 60) inz9 tyX9_ok nmX9 rfl (by decide) wd_1078 rfl rfl rfl rfl dX9_init_358) ?_
  refine sm_aload_n (pc := 361) (n := 0) dX9_init_361 rfl ?_
  refine sm_bipush (pc := 362) dX9_init_362 zc_b_6 ?_
  refine sm_newI (pc := 364) dX9_init_364 wd_46 ?_
  refine sm_putR (pc := 366) (ci := 9) (n := 62) (ty := tyX9 62) rfl (by decide) rfl rfl (zputF (C := RX9) (T := TX9) (N := 63) (ty0 := tyX9) (ty := tyX9 62) inz9 tyX9_ok nmX9 rfl (by decide) wd_1080 rfl rfl rfl rfl dX9_init_366) ?_
  refine sm_aload_n (pc := 369) (n := 0) dX9_init_369 rfl ?_
  refine sm_iconst (pc := 370) dX9_init_370 zc_i_3 ?_
  refine sm_iconst (pc := 371) dX9_init_371 zc_i_2 ?_
  refine sm_cV (pc := 372) (ci := 9) (n := 3) (mc := 0) (ms := 0) rfl m_X9_lays (zrunV (n := 2) (ci := 9) rfl rfl wd_912 wd_14 wd_909 wd_911 ws_53 (by decide) (by decide) (by decide) dX9_init_372) ?_
  exact sm_vreturn (pc := 375) dX9_init_375 rfl
noncomputable def f_X9_init {d : Nat} : List zV → zH d → zP d → Bool := zfn 1 b_X9_init
theorem m_X9_init {d : Nat} : zMet (d := d) X_X9_init yX9_init 21 f_X9_init := zmet_mk (X := X_X9_init) (by decide) rfl rfl s_X9_init

abbrev X_X9_group : zM := (RX9, cX9_group, 3, (some .int), "group")
noncomputable def b_X9_group {d : Nat} (P : zP d) : zK d := (xild 1 (xi2l (xpL 1 (xpL 6 (xcS 3 0 0 f_X9_isIn (xjoin (xpI 4294967295 (xiret P)) (fun j33 => (xif0 t0eq j33 (xild 2 (xpI 2 (xjoin (xald 0 (xild 1 (xild 2 (xcV 25 3 0 0 f_X9_lays (xald 0 (xgfI 25 2 (xiret P))))))) (fun j35 => (xcmp Nat.beq j35 (xild 2 (xpI 3 (xcmp Nat.beq j35 (xild 2 (xpI 5 (xcmp Nat.beq j35 (xild 2 (xpI 7 (xcmp Nat.beq j35 j33))))))))))))))))))))))
set_option maxRecDepth 100000 in
set_option maxHeartbeats 4000000 in
theorem s_X9_group {d : Nat} (P : zP d) : zSim X_X9_group 21 P 0 (b_X9_group P) := by
  unfold b_X9_group
  refine sm_iload_n (pc := 0) (n := 1) dX9_group_0 rfl ?_
  refine sm_i2l (pc := 1) dX9_group_1 ?_
  refine sm_lconst (pc := 2) dX9_group_2 zc_l_1 ?_
  refine sm_ldc2 (pc := 3) dX9_group_3 wd_1212 zc_cl_6 ?_
  refine sm_cS (pc := 6) (n := 3) (mc := 0) (ms := 0) m_X9_isIn (zrunS (n := 3) wd_1215 wd_14 wd_1213 wd_1214 (by decide) (by decide) (by decide) dX9_group_6) ?_
  refine sm_join (pc := 9) (pc' := 33) ?_ (fun j33 hj33 => ?_)
  · skip
    refine sm_iconst (pc := 33) dX9_group_33 zc_i_m1 ?_
    exact sm_ireturn (pc := 34) dX9_group_34 rfl
  refine sm_if_eq (pc := 9) (tgt := 33) dX9_group_9 (by decide) ?_ ?_
  · skip
    exact hj33
  · skip
    refine sm_iload_n (pc := 12) (n := 2) dX9_group_12 rfl ?_
    refine sm_iconst (pc := 13) dX9_group_13 zc_i_2 ?_
    refine sm_join (pc := 14) (pc' := 35) ?_ (fun j35 hj35 => ?_)
    · skip
      refine sm_aload_n (pc := 35) (n := 0) dX9_group_35 rfl ?_
      refine sm_iload_n (pc := 36) (n := 1) dX9_group_36 rfl ?_
      refine sm_iload_n (pc := 37) (n := 2) dX9_group_37 rfl ?_
      refine sm_cV (pc := 38) (ci := 9) (n := 3) (mc := 0) (ms := 0) rfl m_X9_lays (zrunV (n := 2) (ci := 9) rfl rfl wd_912 wd_14 wd_909 wd_911 ws_53 (by decide) (by decide) (by decide) dX9_group_38) ?_
      refine sm_aload_n (pc := 41) (n := 0) dX9_group_41 rfl ?_
      refine sm_getfieldI (pc := 42) (ci := 9) (n := 2) (C := RX9) (T := TX9) (N := 63) rfl rfl inz9 rfl (by decide) rfl wd_1020 rfl dX9_group_42 ?_
      exact sm_ireturn (pc := 45) dX9_group_45 rfl
    refine sm_icmp_eq (pc := 14) (tgt := 35) dX9_group_14 (by decide) ?_ ?_
    · skip
      exact hj35
    · skip
      refine sm_iload_n (pc := 17) (n := 2) dX9_group_17 rfl ?_
      refine sm_iconst (pc := 18) dX9_group_18 zc_i_3 ?_
      refine sm_icmp_eq (pc := 19) (tgt := 35) dX9_group_19 (by decide) ?_ ?_
      · skip
        exact hj35
      · skip
        refine sm_iload_n (pc := 22) (n := 2) dX9_group_22 rfl ?_
        refine sm_iconst (pc := 23) dX9_group_23 zc_i_5 ?_
        refine sm_icmp_eq (pc := 24) (tgt := 35) dX9_group_24 (by decide) ?_ ?_
        · skip
          exact hj35
        · skip
          refine sm_iload_n (pc := 27) (n := 2) dX9_group_27 rfl ?_
          refine sm_bipush (pc := 28) dX9_group_28 zc_b_7 ?_
          refine sm_icmp_eq (pc := 30) (tgt := 35) dX9_group_30 (by decide) ?_ ?_
          · skip
            exact hj35
          · skip
            exact hj33
noncomputable def f_X9_group {d : Nat} : List zV → zH d → zP d → Bool := zfn 3 b_X9_group
theorem m_X9_group {d : Nat} : zMet (d := d) X_X9_group yX9_group 21 f_X9_group := zmet_mk (X := X_X9_group) (by decide) rfl rfl s_X9_group
