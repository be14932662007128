/-! the reference, by program -/
abbrev X_X9_isPart : zM := (RX9, cX9_isPart, 2, (some .boolean), "isPart")
noncomputable def b_X9_isPart {d : Nat} (P : zP d) : zK d := (xild 1 (xi2l (xpL 0 (xald 0 (xgfI 25 2 (xpI 1 (xbin zsub (xi2l (xcS 3 0 0 f_X9_isIn (xzret P))))))))))
set_option maxRecDepth 100000 in
set_option maxHeartbeats 4000000 in
theorem s_X9_isPart {d : Nat} [zGh] (P : zP d) : zSim X_X9_isPart 2 P 0 (b_X9_isPart P) := by
  unfold b_X9_isPart
  refine sm_iload_n (pc := 0) (n := 1) dX9_isPart_0 rfl ?_
  refine sm_i2l (pc := 1) dX9_isPart_1 ?_
  refine sm_lconst (pc := 2) dX9_isPart_2 zc_l_0 ?_
  refine sm_aload_n (pc := 3) (n := 0) dX9_isPart_3 rfl ?_
  refine gf_X9_153 (pc := 4) rfl dX9_isPart_4 ?_
  refine sm_iconst (pc := 7) dX9_isPart_7 zc_i_1 ?_
  refine sm_isub (pc := 8) dX9_isPart_8 ?_
  refine sm_i2l (pc := 9) dX9_isPart_9 ?_
  refine sm_cS (pc := 10) (n := 3) (mc := 0) (ms := 0) m_X9_isIn (cr_X9_283 (X := X_X9_isPart) (fr := 2) (frc := 1) (pc := 10) (mc := 0) (ms := 0) rfl (by decide) dX9_isPart_10) ?_
  exact sm_zreturn (pc := 13) dX9_isPart_13 rfl
noncomputable def f_X9_isPart {d : Nat} : List zV → zH d → zP d → Bool := zfn 2 b_X9_isPart
theorem m_X9_isPart {d : Nat} : zMet (d := d) X_X9_isPart yX9_isPart 2 f_X9_isPart := zmet_mk (X := X_X9_isPart) (by decide) rfl rfl s_X9_isPart

abbrev X_X9_partition : zM := (RX9, cX9_partition, 3, (some .int), "partition")
noncomputable def bX9_partition_13 {d : Nat} (P : zP d) : zK d := (xpI 4294967295 (xiret P))
set_option maxRecDepth 100000 in
set_option maxHeartbeats 4000000 in
theorem sbX9_partition_13 {d : Nat} [zGh] (P : zP d) : zSim X_X9_partition 3 P 13 (bX9_partition_13 P) := by
  unfold bX9_partition_13
  refine sm_iconst (pc := 13) dX9_partition_13 zc_i_m1 ?_
  exact sm_ireturn (pc := 14) dX9_partition_14 rfl
noncomputable def bX9_partition_35 {d : Nat} (P : zP d) : zK d := (xiret P)
set_option maxRecDepth 100000 in
set_option maxHeartbeats 4000000 in
theorem sbX9_partition_35 {d : Nat} [zGh] (P : zP d) : zSim X_X9_partition 3 P 35 (bX9_partition_35 P) := by
  unfold bX9_partition_35
  exact sm_ireturn (pc := 35) dX9_partition_35 rfl
noncomputable def b_X9_partition {d : Nat} (P : zP d) : zK d := (xald 0 (xild 1 (xcV 25 2 0 0 f_X9_isPart (xjoin (bX9_partition_13 P) (fun j13 => (xif0 t0eq j13 (xild 2 (xpI 4294967295 (xcmp tge (xild 2 (xpI 4294967295 (xjoin (bX9_partition_35 P) (fun j35 => (xcmp Nat.beq (xald 0 (xgfR 25 4 (xild 1 (xald1 0 j35)))) (xald 0 (xild 1 (xild 2 (xcV 25 3 0 0 f_X9_partOf j35))))))))) j13)))))))))
set_option maxRecDepth 100000 in
set_option maxHeartbeats 4000000 in
theorem s_X9_partition {d : Nat} [zGh] (P : zP d) : zSim X_X9_partition 3 P 0 (b_X9_partition P) := by
  unfold b_X9_partition
  refine sm_aload_n (pc := 0) (n := 0) dX9_partition_0 rfl ?_
  refine sm_iload_n (pc := 1) (n := 1) dX9_partition_1 rfl ?_
  refine sm_cV (pc := 2) (ci := 9) (n := 2) (mc := 0) (ms := 0) rfl m_X9_isPart (cr_X9_287 (X := X_X9_partition) (fr := 3) (frc := 2) (pc := 2) (mc := 0) (ms := 0) rfl (by decide) dX9_partition_2) ?_
  refine sm_join (pc := 5) (pc' := 13) (sbX9_partition_13 P) (fun j13 hj13 => ?_)
  refine sm_if_eq (pc := 5) (tgt := 13) dX9_partition_5 (by decide) ?_ ?_
  · skip
    exact hj13
  · skip
    refine sm_iload_n (pc := 8) (n := 2) dX9_partition_8 rfl ?_
    refine sm_iconst (pc := 9) dX9_partition_9 zc_i_m1 ?_
    refine sm_icmp_ge (pc := 10) (tgt := 15) dX9_partition_10 (by decide) ?_ ?_
    · skip
      refine sm_iload_n (pc := 15) (n := 2) dX9_partition_15 rfl ?_
      refine sm_iconst (pc := 16) dX9_partition_16 zc_i_m1 ?_
      refine sm_join (pc := 17) (pc' := 35) (sbX9_partition_35 P) (fun j35 hj35 => ?_)
      refine sm_icmp_ne (pc := 17) (tgt := 29) dX9_partition_17 (by decide) ?_ ?_
      · skip
        refine sm_aload_n (pc := 29) (n := 0) dX9_partition_29 rfl ?_
        refine sm_iload_n (pc := 30) (n := 1) dX9_partition_30 rfl ?_
        refine sm_iload_n (pc := 31) (n := 2) dX9_partition_31 rfl ?_
        refine sm_cV (pc := 32) (ci := 9) (n := 3) (mc := 0) (ms := 0) rfl m_X9_partOf (cr_X9_175 (X := X_X9_partition) (fr := 3) (frc := 1) (pc := 32) (mc := 0) (ms := 0) rfl (by decide) dX9_partition_32) ?_
        exact hj35
      · skip
        refine sm_aload_n (pc := 20) (n := 0) dX9_partition_20 rfl ?_
        refine gf_X9_13 (pc := 21) rfl dX9_partition_21 ?_
        refine sm_iload_n (pc := 24) (n := 1) dX9_partition_24 rfl ?_
        refine sm_iaload (pc := 25) dX9_partition_25 ?_
        refine sm_goto (pc := 26) (tgt := 35) dX9_partition_26 (by decide) ?_
        exact hj35
    · skip
      exact hj13
noncomputable def f_X9_partition {d : Nat} : List zV → zH d → zP d → Bool := zfn 3 b_X9_partition
theorem m_X9_partition {d : Nat} : zMet (d := d) X_X9_partition yX9_partition 3 f_X9_partition := zmet_mk (X := X_X9_partition) (by decide) rfl rfl s_X9_partition

abbrev X_X9_isTurned : zM := (RX9, cX9_isTurned, 6, (some .boolean), "isTurned")
noncomputable def bX9_isTurned_39 {d : Nat} (P : zP d) (r14 : zK d) : zK d := (xcS 1 0 0 f_X9_one (xbin zadd (xist 4 (xinc 5 1 r14))))
set_option maxRecDepth 100000 in
set_option maxHeartbeats 4000000 in
theorem sbX9_isTurned_39 {d : Nat} [zGh] (P : zP d) (r14 : zK d) (hr14 : zSim X_X9_isTurned 2 P 14 r14) : zSim X_X9_isTurned 2 P 39 (bX9_isTurned_39 P r14) := by
  unfold bX9_isTurned_39
  refine sm_cS (pc := 39) (n := 1) (mc := 0) (ms := 0) m_X9_one (cr_X9_187 (X := X_X9_isTurned) (fr := 2) (frc := 1) (pc := 39) (mc := 0) (ms := 0) rfl (by decide) dX9_isTurned_39) ?_
  refine sm_iadd (pc := 42) dX9_isTurned_42 ?_
  refine sm_istore (pc := 43) (n := 4) dX9_isTurned_43 ?_
  refine sm_iinc (pc := 45) (n := 5) dX9_isTurned_45 zc_i_1 ?_
  refine sm_goto (pc := 48) (tgt := 14) dX9_isTurned_48 (by decide) ?_
  exact hr14
noncomputable def lX9_isTurned_14 {d : Nat} (P : zP d) (r14 : zK d) (r2 : zK d) : zK d := (xild 5 (xpI 6 (xcmp tge (xald 0 (xild 2 (xild 3 (xcV 25 3 0 0 f_X9_partOf (xild 4 (xcmp Nat.beq (xinc 3 1 r2) (xpI 0 (xzret P)))))))) (xild 4 (xald 0 (xild 1 (xild 5 (xcV 25 3 0 0 f_X9_partOf (xild 3 (xjoin (bX9_isTurned_39 P r14) (fun j39 => (xcmp tle (xpI 0 j39) (xpI 1 j39)))))))))))))
set_option maxRecDepth 100000 in
set_option maxHeartbeats 4000000 in
theorem slX9_isTurned_14 {d : Nat} [zGh] (P : zP d) (r14 : zK d) (r2 : zK d) (hr14 : zSim X_X9_isTurned 2 P 14 r14) (hr2 : zSim X_X9_isTurned 2 P 2 r2) : zSim X_X9_isTurned 2 P 14 (lX9_isTurned_14 P r14 r2) := by
  unfold lX9_isTurned_14
  refine sm_iload (pc := 14) (n := 5) dX9_isTurned_14 ?_
  refine sm_bipush (pc := 16) dX9_isTurned_16 zc_b_6 ?_
  refine sm_icmp_ge (pc := 18) (tgt := 51) dX9_isTurned_18 (by decide) ?_ ?_
  · skip
    refine sm_aload_n (pc := 51) (n := 0) dX9_isTurned_51 rfl ?_
    refine sm_iload_n (pc := 52) (n := 2) dX9_isTurned_52 rfl ?_
    refine sm_iload_n (pc := 53) (n := 3) dX9_isTurned_53 rfl ?_
    refine sm_cV (pc := 54) (ci := 9) (n := 3) (mc := 0) (ms := 0) rfl m_X9_partOf (cr_X9_175 (X := X_X9_isTurned) (fr := 2) (frc := 1) (pc := 54) (mc := 0) (ms := 0) rfl (by decide) dX9_isTurned_54) ?_
    refine sm_iload (pc := 57) (n := 4) dX9_isTurned_57 ?_
    refine sm_icmp_eq (pc := 59) (tgt := 64) dX9_isTurned_59 (by decide) ?_ ?_
    · skip
      refine sm_iinc (pc := 64) (n := 3) dX9_isTurned_64 zc_i_1 ?_
      refine sm_goto (pc := 67) (tgt := 2) dX9_isTurned_67 (by decide) ?_
      exact hr2
    · skip
      refine sm_iconst (pc := 62) dX9_isTurned_62 zc_i_0 ?_
      exact sm_zreturn (pc := 63) dX9_isTurned_63 rfl
  · skip
    refine sm_iload (pc := 21) (n := 4) dX9_isTurned_21 ?_
    refine sm_aload_n (pc := 23) (n := 0) dX9_isTurned_23 rfl ?_
    refine sm_iload_n (pc := 24) (n := 1) dX9_isTurned_24 rfl ?_
    refine sm_iload (pc := 25) (n := 5) dX9_isTurned_25 ?_
    refine sm_cV (pc := 27) (ci := 9) (n := 3) (mc := 0) (ms := 0) rfl m_X9_partOf (cr_X9_175 (X := X_X9_isTurned) (fr := 2) (frc := 1) (pc := 27) (mc := 0) (ms := 0) rfl (by decide) dX9_isTurned_27) ?_
    refine sm_iload_n (pc := 30) (n := 3) dX9_isTurned_30 rfl ?_
    refine sm_join (pc := 31) (pc' := 39) (sbX9_isTurned_39 P r14 hr14) (fun j39 hj39 => ?_)
    refine sm_icmp_le (pc := 31) (tgt := 38) dX9_isTurned_31 (by decide) ?_ ?_
    · skip
      refine sm_iconst (pc := 38) dX9_isTurned_38 zc_i_0 ?_
      exact hj39
    · skip
      refine sm_iconst (pc := 34) dX9_isTurned_34 zc_i_1 ?_
      refine sm_goto (pc := 35) (tgt := 39) dX9_isTurned_35 (by decide) ?_
      exact hj39
noncomputable def lX9_isTurned_2 {d : Nat} (P : zP d) (r2 : zK d) : zK d := (xild 3 (xpI 6 (xcmp tge (xpI 1 (xzret P)) (xpI 0 (xist 4 (xpI 0 (xist 5 (xloop (fun r14 => (lX9_isTurned_14 P r14 r2)) 100000))))))))
set_option maxRecDepth 100000 in
set_option maxHeartbeats 4000000 in
theorem slX9_isTurned_2 {d : Nat} [zGh] (P : zP d) (r2 : zK d) (hr2 : zSim X_X9_isTurned 2 P 2 r2) : zSim X_X9_isTurned 2 P 2 (lX9_isTurned_2 P r2) := by
  unfold lX9_isTurned_2
  refine sm_iload_n (pc := 2) (n := 3) dX9_isTurned_2 rfl ?_
  refine sm_bipush (pc := 3) dX9_isTurned_3 zc_b_6 ?_
  refine sm_icmp_ge (pc := 5) (tgt := 70) dX9_isTurned_5 (by decide) ?_ ?_
  · skip
    refine sm_iconst (pc := 70) dX9_isTurned_70 zc_i_1 ?_
    exact sm_zreturn (pc := 71) dX9_isTurned_71 rfl
  · skip
    refine sm_iconst (pc := 8) dX9_isTurned_8 zc_i_0 ?_
    refine sm_istore (pc := 9) (n := 4) dX9_isTurned_9 ?_
    refine sm_iconst (pc := 11) dX9_isTurned_11 zc_i_0 ?_
    refine sm_istore (pc := 12) (n := 5) dX9_isTurned_12 ?_
    exact sm_loop (fun r14 hr14 => slX9_isTurned_14 P r14 r2 hr14 hr2) _
noncomputable def b_X9_isTurned {d : Nat} (P : zP d) : zK d := (xpI 0 (xist 3 (xloop (fun r2 => (lX9_isTurned_2 P r2)) 100000)))
set_option maxRecDepth 100000 in
set_option maxHeartbeats 4000000 in
theorem s_X9_isTurned {d : Nat} [zGh] (P : zP d) : zSim X_X9_isTurned 2 P 0 (b_X9_isTurned P) := by
  unfold b_X9_isTurned
  refine sm_iconst (pc := 0) dX9_isTurned_0 zc_i_0 ?_
  refine sm_istore_n (pc := 1) (n := 3) dX9_isTurned_1 rfl ?_
  exact sm_loop (fun r2 hr2 => slX9_isTurned_2 P r2 hr2) _
noncomputable def f_X9_isTurned {d : Nat} : List zV → zH d → zP d → Bool := zfn 6 b_X9_isTurned
theorem m_X9_isTurned {d : Nat} : zMet (d := d) X_X9_isTurned yX9_isTurned 2 f_X9_isTurned := zmet_mk (X := X_X9_isTurned) (by decide) rfl rfl s_X9_isTurned

abbrev X_X9_turned : zM := (RX9, cX9_turned, 3, (some .int), "turned")
noncomputable def lX9_turned_2 {d : Nat} (P : zP d) (r2 : zK d) : zK d := (xald 0 (xild 1 (xild 2 (xcV 25 3 0 0 f_X9_isTurned (xif0 t0eq (xinc 2 1 r2) (xild 2 (xiret P)))))))
set_option maxRecDepth 100000 in
set_option maxHeartbeats 4000000 in
theorem slX9_turned_2 {d : Nat} [zGh] (P : zP d) (r2 : zK d) (hr2 : zSim X_X9_turned 3 P 2 r2) : zSim X_X9_turned 3 P 2 (lX9_turned_2 P r2) := by
  unfold lX9_turned_2
  refine sm_aload_n (pc := 2) (n := 0) dX9_turned_2 rfl ?_
  refine sm_iload_n (pc := 3) (n := 1) dX9_turned_3 rfl ?_
  refine sm_iload_n (pc := 4) (n := 2) dX9_turned_4 rfl ?_
  refine sm_cV (pc := 5) (ci := 9) (n := 3) (mc := 0) (ms := 0) rfl m_X9_isTurned (cr_X9_291 (X := X_X9_turned) (fr := 3) (frc := 2) (pc := 5) (mc := 0) (ms := 0) rfl (by decide) dX9_turned_5) ?_
  refine sm_if_ne (pc := 8) (tgt := 17) dX9_turned_8 (by decide) ?_ ?_
  · skip
    refine sm_iload_n (pc := 17) (n := 2) dX9_turned_17 rfl ?_
    exact sm_ireturn (pc := 18) dX9_turned_18 rfl
  · skip
    refine sm_iinc (pc := 11) (n := 2) dX9_turned_11 zc_i_1 ?_
    refine sm_goto (pc := 14) (tgt := 2) dX9_turned_14 (by decide) ?_
    exact hr2
noncomputable def b_X9_turned {d : Nat} (P : zP d) : zK d := (xpI 0 (xist 2 (xloop (fun r2 => (lX9_turned_2 P r2)) 100000)))
set_option maxRecDepth 100000 in
set_option maxHeartbeats 4000000 in
theorem s_X9_turned {d : Nat} [zGh] (P : zP d) : zSim X_X9_turned 3 P 0 (b_X9_turned P) := by
  unfold b_X9_turned
  refine sm_iconst (pc := 0) dX9_turned_0 zc_i_0 ?_
  refine sm_istore_n (pc := 1) (n := 2) dX9_turned_1 rfl ?_
  exact sm_loop (fun r2 hr2 => slX9_turned_2 P r2 hr2) _
noncomputable def f_X9_turned {d : Nat} : List zV → zH d → zP d → Bool := zfn 3 b_X9_turned
theorem m_X9_turned {d : Nat} : zMet (d := d) X_X9_turned yX9_turned 3 f_X9_turned := zmet_mk (X := X_X9_turned) (by decide) rfl rfl s_X9_turned

abbrev X_X9_of : zM := (RX9, cX9_of, 3, (some .int), "of")
noncomputable def bX9_of_125 {d : Nat} (P : zP d) : zK d := (xpI 4294967295 (xiret P))
set_option maxRecDepth 100000 in
set_option maxHeartbeats 4000000 in
theorem sbX9_of_125 {d : Nat} [zGh] (P : zP d) : zSim X_X9_of 4 P 125 (bX9_of_125 P) := by
  unfold bX9_of_125
  refine sm_iconst (pc := 125) dX9_of_125 zc_i_m1 ?_
  exact sm_ireturn (pc := 126) dX9_of_126 rfl
noncomputable def bX9_of_56 {d : Nat} (P : zP d) : zK d := (xald 0 (xgfR 25 7 (xild 1 (xald1 1 (xcS 1 0 0 f_X9_one (xiret P))))))
set_option maxRecDepth 100000 in
set_option maxHeartbeats 4000000 in
theorem sbX9_of_56 {d : Nat} [zGh] (P : zP d) : zSim X_X9_of 4 P 56 (bX9_of_56 P) := by
  unfold bX9_of_56
  refine sm_aload_n (pc := 56) (n := 0) dX9_of_56 rfl ?_
  refine gf_X9_22 (pc := 57) rfl dX9_of_57 ?_
  refine sm_iload_n (pc := 60) (n := 1) dX9_of_60 rfl ?_
  refine sm_baload (pc := 61) dX9_of_61 ?_
  refine sm_cS (pc := 62) (n := 1) (mc := 0) (ms := 0) m_X9_one (cr_X9_187 (X := X_X9_of) (fr := 4) (frc := 1) (pc := 62) (mc := 0) (ms := 0) rfl (by decide) dX9_of_62) ?_
  exact sm_ireturn (pc := 65) dX9_of_65 rfl
noncomputable def bX9_of_66 {d : Nat} (P : zP d) : zK d := (xald 0 (xgfR 25 15 (xild 1 (xald1 0 (xiret P)))))
set_option maxRecDepth 100000 in
set_option maxHeartbeats 4000000 in
theorem sbX9_of_66 {d : Nat} [zGh] (P : zP d) : zSim X_X9_of 4 P 66 (bX9_of_66 P) := by
  unfold bX9_of_66
  refine sm_aload_n (pc := 66) (n := 0) dX9_of_66 rfl ?_
  refine gf_X9_41 (pc := 67) rfl dX9_of_67 ?_
  refine sm_iload_n (pc := 70) (n := 1) dX9_of_70 rfl ?_
  refine sm_iaload (pc := 71) dX9_of_71 ?_
  exact sm_ireturn (pc := 72) dX9_of_72 rfl
noncomputable def bX9_of_73 {d : Nat} (P : zP d) : zK d := (xald 0 (xgfR 25 17 (xild 1 (xald1 0 (xiret P)))))
set_option maxRecDepth 100000 in
set_option maxHeartbeats 4000000 in
theorem sbX9_of_73 {d : Nat} [zGh] (P : zP d) : zSim X_X9_of 4 P 73 (bX9_of_73 P) := by
  unfold bX9_of_73
  refine sm_aload_n (pc := 73) (n := 0) dX9_of_73 rfl ?_
  refine gf_X9_47 (pc := 74) rfl dX9_of_74 ?_
  refine sm_iload_n (pc := 77) (n := 1) dX9_of_77 rfl ?_
  refine sm_iaload (pc := 78) dX9_of_78 ?_
  exact sm_ireturn (pc := 79) dX9_of_79 rfl
noncomputable def bX9_of_80 {d : Nat} (P : zP d) : zK d := (xald 0 (xgfR 25 21 (xild 1 (xald1 0 (xiret P)))))
set_option maxRecDepth 100000 in
set_option maxHeartbeats 4000000 in
theorem sbX9_of_80 {d : Nat} [zGh] (P : zP d) : zSim X_X9_of 4 P 80 (bX9_of_80 P) := by
  unfold bX9_of_80
  refine sm_aload_n (pc := 80) (n := 0) dX9_of_80 rfl ?_
  refine gf_X9_56 (pc := 81) rfl dX9_of_81 ?_
  refine sm_iload_n (pc := 84) (n := 1) dX9_of_84 rfl ?_
  refine sm_iaload (pc := 85) dX9_of_85 ?_
  exact sm_ireturn (pc := 86) dX9_of_86 rfl
noncomputable def bX9_of_87 {d : Nat} (P : zP d) : zK d := (xald 0 (xgfR 25 36 (xild 1 (xald1 0 (xiret P)))))
set_option maxRecDepth 100000 in
set_option maxHeartbeats 4000000 in
theorem sbX9_of_87 {d : Nat} [zGh] (P : zP d) : zSim X_X9_of 4 P 87 (bX9_of_87 P) := by
  unfold bX9_of_87
  refine sm_aload_n (pc := 87) (n := 0) dX9_of_87 rfl ?_
  refine gf_X9_93 (pc := 88) rfl dX9_of_88 ?_
  refine sm_iload_n (pc := 91) (n := 1) dX9_of_91 rfl ?_
  refine sm_iaload (pc := 92) dX9_of_92 ?_
  exact sm_ireturn (pc := 93) dX9_of_93 rfl
noncomputable def bX9_of_94 {d : Nat} (P : zP d) : zK d := (xald 0 (xild 1 (xcV 25 2 0 0 f_X9_turned (xiret P))))
set_option maxRecDepth 100000 in
set_option maxHeartbeats 4000000 in
theorem sbX9_of_94 {d : Nat} [zGh] (P : zP d) : zSim X_X9_of 4 P 94 (bX9_of_94 P) := by
  unfold bX9_of_94
  refine sm_aload_n (pc := 94) (n := 0) dX9_of_94 rfl ?_
  refine sm_iload_n (pc := 95) (n := 1) dX9_of_95 rfl ?_
  refine sm_cV (pc := 96) (ci := 9) (n := 2) (mc := 0) (ms := 0) rfl m_X9_turned (cr_X9_295 (X := X_X9_of) (fr := 4) (frc := 3) (pc := 96) (mc := 0) (ms := 0) rfl (by decide) dX9_of_96) ?_
  exact sm_ireturn (pc := 99) dX9_of_99 rfl
noncomputable def bX9_of_114 {d : Nat} (P : zP d) : zK d := (xcS 1 0 0 f_X9_one (xiret P))
set_option maxRecDepth 100000 in
set_option maxHeartbeats 4000000 in
theorem sbX9_of_114 {d : Nat} [zGh] (P : zP d) : zSim X_X9_of 4 P 114 (bX9_of_114 P) := by
  unfold bX9_of_114
  refine sm_cS (pc := 114) (n := 1) (mc := 0) (ms := 0) m_X9_one (cr_X9_187 (X := X_X9_of) (fr := 4) (frc := 1) (pc := 114) (mc := 0) (ms := 0) rfl (by decide) dX9_of_114) ?_
  exact sm_ireturn (pc := 117) dX9_of_117 rfl
noncomputable def bX9_of_100 {d : Nat} (P : zP d) : zK d := (xald 0 (xild 1 (xcV 25 2 0 0 f_X9_turned (xild 1 (xjoin (bX9_of_114 P) (fun j114 => (xcmp Nat.beq (xpI 1 j114) (xpI 0 j114))))))))
set_option maxRecDepth 100000 in
set_option maxHeartbeats 4000000 in
theorem sbX9_of_100 {d : Nat} [zGh] (P : zP d) : zSim X_X9_of 4 P 100 (bX9_of_100 P) := by
  unfold bX9_of_100
  refine sm_aload_n (pc := 100) (n := 0) dX9_of_100 rfl ?_
  refine sm_iload_n (pc := 101) (n := 1) dX9_of_101 rfl ?_
  refine sm_cV (pc := 102) (ci := 9) (n := 2) (mc := 0) (ms := 0) rfl m_X9_turned (cr_X9_295 (X := X_X9_of) (fr := 4) (frc := 3) (pc := 102) (mc := 0) (ms := 0) rfl (by decide) dX9_of_102) ?_
  refine sm_iload_n (pc := 105) (n := 1) dX9_of_105 rfl ?_
  refine sm_join (pc := 106) (pc' := 114) (sbX9_of_114 P) (fun j114 hj114 => ?_)
  refine sm_icmp_ne (pc := 106) (tgt := 113) dX9_of_106 (by decide) ?_ ?_
  · skip
    refine sm_iconst (pc := 113) dX9_of_113 zc_i_0 ?_
    exact hj114
  · skip
    refine sm_iconst (pc := 109) dX9_of_109 zc_i_1 ?_
    refine sm_goto (pc := 110) (tgt := 114) dX9_of_110 (by decide) ?_
    exact hj114
noncomputable def bX9_of_118 {d : Nat} (P : zP d) : zK d := (xald 0 (xgfR 25 10 (xild 1 (xald1 0 (xiret P)))))
set_option maxRecDepth 100000 in
set_option maxHeartbeats 4000000 in
theorem sbX9_of_118 {d : Nat} [zGh] (P : zP d) : zSim X_X9_of 4 P 118 (bX9_of_118 P) := by
  unfold bX9_of_118
  refine sm_aload_n (pc := 118) (n := 0) dX9_of_118 rfl ?_
  refine gf_X9_32 (pc := 119) rfl dX9_of_119 ?_
  refine sm_iload_n (pc := 122) (n := 1) dX9_of_122 rfl ?_
  refine sm_iaload (pc := 123) dX9_of_123 ?_
  exact sm_ireturn (pc := 124) dX9_of_124 rfl
noncomputable def b_X9_of {d : Nat} (P : zP d) : zK d := (xald 0 (xild 1 (xcV 25 2 0 0 f_X9_isPart (xif0 t0eq (xpI 4294967295 (xiret P)) (xild 2 (xtsw [(bX9_of_56 P), (bX9_of_66 P), (bX9_of_73 P), (bX9_of_80 P), (bX9_of_87 P), (bX9_of_94 P), (bX9_of_100 P), (bX9_of_118 P)] (bX9_of_125 P)))))))
set_option maxRecDepth 100000 in
set_option maxHeartbeats 4000000 in
theorem s_X9_of {d : Nat} [zGh] (P : zP d) : zSim X_X9_of 4 P 0 (b_X9_of P) := by
  unfold b_X9_of
  refine sm_aload_n (pc := 0) (n := 0) dX9_of_0 rfl ?_
  refine sm_iload_n (pc := 1) (n := 1) dX9_of_1 rfl ?_
  refine sm_cV (pc := 2) (ci := 9) (n := 2) (mc := 0) (ms := 0) rfl m_X9_isPart (cr_X9_287 (X := X_X9_of) (fr := 4) (frc := 2) (pc := 2) (mc := 0) (ms := 0) rfl (by decide) dX9_of_2) ?_
  refine sm_if_ne (pc := 5) (tgt := 10) dX9_of_5 (by decide) ?_ ?_
  · skip
    refine sm_iload_n (pc := 10) (n := 2) dX9_of_10 rfl ?_
    refine sm_tsw2 (pc := 11) (n := 7) (tdf := 125) [56, 66, 73, 80, 87, 94, 100, 118] rfl (by decide) dX9_of_11 rfl (by decide +kernel) (by decide) (sbX9_of_125 P) (fun i k t hk ht => ?_)
    match i, hk, ht with
    | 0, hk, ht => cases hk; cases ht; exact sbX9_of_56 P
    | 1, hk, ht => cases hk; cases ht; exact sbX9_of_66 P
    | 2, hk, ht => cases hk; cases ht; exact sbX9_of_73 P
    | 3, hk, ht => cases hk; cases ht; exact sbX9_of_80 P
    | 4, hk, ht => cases hk; cases ht; exact sbX9_of_87 P
    | 5, hk, ht => cases hk; cases ht; exact sbX9_of_94 P
    | 6, hk, ht => cases hk; cases ht; exact sbX9_of_100 P
    | 7, hk, ht => cases hk; cases ht; exact sbX9_of_118 P
    | i + 8, hk, ht => cases hk
  · skip
    refine sm_iconst (pc := 8) dX9_of_8 zc_i_m1 ?_
    exact sm_ireturn (pc := 9) dX9_of_9 rfl
noncomputable def f_X9_of {d : Nat} : List zV → zH d → zP d → Bool := zfn 3 b_X9_of
theorem m_X9_of {d : Nat} : zMet (d := d) X_X9_of yX9_of 4 f_X9_of := zmet_mk (X := X_X9_of) (by decide) rfl rfl s_X9_of

abbrev X_X9_partBy : zM := (RX9, cX9_partBy, 4, (some .int), "partBy")
noncomputable def bX9_partBy_33 {d : Nat} (P : zP d) (r5 : zK d) : zK d := (xinc 3 4294967295 r5)
set_option maxRecDepth 100000 in
set_option maxHeartbeats 4000000 in
theorem sbX9_partBy_33 {d : Nat} [zGh] (P : zP d) (r5 : zK d) (hr5 : zSim X_X9_partBy 1 P 5 r5) : zSim X_X9_partBy 1 P 33 (bX9_partBy_33 P r5) := by
  unfold bX9_partBy_33
  refine sm_iinc (pc := 33) (n := 3) dX9_partBy_33 zc_i_m1 ?_
  refine sm_goto (pc := 36) (tgt := 5) dX9_partBy_36 (by decide) ?_
  exact hr5
noncomputable def lX9_partBy_5 {d : Nat} (P : zP d) (r5 : zK d) : zK d := (xild 3 (xif0 t0ge (xild 0 (xild 3 (xbin zshr (xpI 1 (xbin zand (xjoin (bX9_partBy_33 P r5) (fun j33 => (xif0 t0eq j33 (xild 2 (xif0 t0eq (xild 3 (xpI 5 (xild 1 (xbin zsub (xbin zsub (xiret P)))))) (xinc 2 4294967295 j33))))))))))) (xpI 0 (xiret P))))
set_option maxRecDepth 100000 in
set_option maxHeartbeats 4000000 in
theorem slX9_partBy_5 {d : Nat} [zGh] (P : zP d) (r5 : zK d) (hr5 : zSim X_X9_partBy 1 P 5 r5) : zSim X_X9_partBy 1 P 5 (lX9_partBy_5 P r5) := by
  unfold lX9_partBy_5
  refine sm_iload_n (pc := 5) (n := 3) dX9_partBy_5 rfl ?_
  refine sm_if_lt (pc := 6) (tgt := 39) dX9_partBy_6 (by decide) ?_ ?_
  · skip
    refine sm_iconst (pc := 39) dX9_partBy_39 zc_i_0 ?_
    exact sm_ireturn (pc := 40) dX9_partBy_40 rfl
  · skip
    refine sm_iload_n (pc := 9) (n := 0) dX9_partBy_9 rfl ?_
    refine sm_iload_n (pc := 10) (n := 3) dX9_partBy_10 rfl ?_
    refine sm_ishr (pc := 11) dX9_partBy_11 ?_
    refine sm_iconst (pc := 12) dX9_partBy_12 zc_i_1 ?_
    refine sm_iand (pc := 13) dX9_partBy_13 ?_
    refine sm_join (pc := 14) (pc' := 33) (sbX9_partBy_33 P r5 hr5) (fun j33 hj33 => ?_)
    refine sm_if_ne (pc := 14) (tgt := 20) dX9_partBy_14 (by decide) ?_ ?_
    · skip
      refine sm_iload_n (pc := 20) (n := 2) dX9_partBy_20 rfl ?_
      refine sm_if_ne (pc := 21) (tgt := 30) dX9_partBy_21 (by decide) ?_ ?_
      · skip
        refine sm_iinc (pc := 30) (n := 2) dX9_partBy_30 zc_i_m1 ?_
        exact hj33
      · skip
        refine sm_iload_n (pc := 24) (n := 3) dX9_partBy_24 rfl ?_
        refine sm_iconst (pc := 25) dX9_partBy_25 zc_i_5 ?_
        refine sm_iload_n (pc := 26) (n := 1) dX9_partBy_26 rfl ?_
        refine sm_isub (pc := 27) dX9_partBy_27 ?_
        refine sm_isub (pc := 28) dX9_partBy_28 ?_
        exact sm_ireturn (pc := 29) dX9_partBy_29 rfl
    · skip
      refine sm_goto (pc := 17) (tgt := 33) dX9_partBy_17 (by decide) ?_
      exact hj33
noncomputable def b_X9_partBy {d : Nat} (P : zP d) : zK d := (xild 1 (xist 2 (xpI 11 (xist 3 (xloop (fun r5 => (lX9_partBy_5 P r5)) 100000)))))
set_option maxRecDepth 100000 in
set_option maxHeartbeats 4000000 in
theorem s_X9_partBy {d : Nat} [zGh] (P : zP d) : zSim X_X9_partBy 1 P 0 (b_X9_partBy P) := by
  unfold b_X9_partBy
  refine sm_iload_n (pc := 0) (n := 1) dX9_partBy_0 rfl ?_
  refine sm_istore_n (pc := 1) (n := 2) dX9_partBy_1 rfl ?_
  refine sm_bipush (pc := 2) dX9_partBy_2 zc_b_11 ?_
  refine sm_istore_n (pc := 4) (n := 3) dX9_partBy_4 rfl ?_
  exact sm_loop (fun r5 hr5 => slX9_partBy_5 P r5 hr5) _
noncomputable def f_X9_partBy {d : Nat} : List zV → zH d → zP d → Bool := zfn 4 b_X9_partBy
theorem m_X9_partBy {d : Nat} : zMet (d := d) X_X9_partBy yX9_partBy 1 f_X9_partBy := zmet_mk (X := X_X9_partBy) (by decide) rfl rfl s_X9_partBy

abbrev X_X9_core : zM := (RX9, cX9_core, 3, (some .int), "core")
noncomputable def bX9_core_13 {d : Nat} (P : zP d) : zK d := (xpI 4294967295 (xiret P))
set_option maxRecDepth 100000 in
set_option maxHeartbeats 4000000 in
theorem sbX9_core_13 {d : Nat} [zGh] (P : zP d) : zSim X_X9_core 3 P 13 (bX9_core_13 P) := by
  unfold bX9_core_13
  refine sm_iconst (pc := 13) dX9_core_13 zc_i_m1 ?_
  exact sm_ireturn (pc := 14) dX9_core_14 rfl
noncomputable def bX9_core_57 {d : Nat} (P : zP d) : zK d := (xiret P)
set_option maxRecDepth 100000 in
set_option maxHeartbeats 4000000 in
theorem sbX9_core_57 {d : Nat} [zGh] (P : zP d) : zSim X_X9_core 3 P 57 (bX9_core_57 P) := by
  unfold bX9_core_57
  exact sm_ireturn (pc := 57) dX9_core_57 rfl
noncomputable def b_X9_core {d : Nat} (P : zP d) : zK d := (xald 0 (xild 1 (xcV 25 2 0 0 f_X9_isPart (xjoin (bX9_core_13 P) (fun j13 => (xif0 t0eq j13 (xild 2 (xpI 4294967295 (xcmp tge (xild 2 (xpI 4294967295 (xcmp Nat.beq (xald 0 (xgfI 25 0 (xald 0 (xgfI 25 1 (xald 0 (xgfR 25 15 (xild 1 (xald1 0 (xbin zmul (xbin zsub (xiret P))))))))))) (xild 2 (xpI 6 (xjoin (bX9_core_57 P) (fun j57 => (xcmp tge (xpI 0 j57) (xald 0 (xgfR 25 16 (xild 1 (xald1 0 (xild 2 (xcS 2 0 0 f_X9_partBy j57)))))))))))))) j13)))))))))
set_option maxRecDepth 100000 in
set_option maxHeartbeats 4000000 in
theorem s_X9_core {d : Nat} [zGh] (P : zP d) : zSim X_X9_core 3 P 0 (b_X9_core P) := by
  unfold b_X9_core
  refine sm_aload_n (pc := 0) (n := 0) dX9_core_0 rfl ?_
  refine sm_iload_n (pc := 1) (n := 1) dX9_core_1 rfl ?_
  refine sm_cV (pc := 2) (ci := 9) (n := 2) (mc := 0) (ms := 0) rfl m_X9_isPart (cr_X9_287 (X := X_X9_core) (fr := 3) (frc := 2) (pc := 2) (mc := 0) (ms := 0) rfl (by decide) dX9_core_2) ?_
  refine sm_join (pc := 5) (pc' := 13) (sbX9_core_13 P) (fun j13 hj13 => ?_)
  refine sm_if_eq (pc := 5) (tgt := 13) dX9_core_5 (by decide) ?_ ?_
  · skip
    exact hj13
  · skip
    refine sm_iload_n (pc := 8) (n := 2) dX9_core_8 rfl ?_
    refine sm_iconst (pc := 9) dX9_core_9 zc_i_m1 ?_
    refine sm_icmp_ge (pc := 10) (tgt := 15) dX9_core_10 (by decide) ?_ ?_
    · skip
      refine sm_iload_n (pc := 15) (n := 2) dX9_core_15 rfl ?_
      refine sm_iconst (pc := 16) dX9_core_16 zc_i_m1 ?_
      refine sm_icmp_ne (pc := 17) (tgt := 37) dX9_core_17 (by decide) ?_ ?_
      · skip
        refine sm_iload_n (pc := 37) (n := 2) dX9_core_37 rfl ?_
        refine sm_bipush (pc := 38) dX9_core_38 zc_b_6 ?_
        refine sm_join (pc := 40) (pc' := 57) (sbX9_core_57 P) (fun j57 hj57 => ?_)
        refine sm_icmp_ge (pc := 40) (tgt := 56) dX9_core_40 (by decide) ?_ ?_
        · skip
          refine sm_iconst (pc := 56) dX9_core_56 zc_i_0 ?_
          exact hj57
        · skip
          refine sm_aload_n (pc := 43) (n := 0) dX9_core_43 rfl ?_
          refine gf_X9_44 (pc := 44) rfl dX9_core_44 ?_
          refine sm_iload_n (pc := 47) (n := 1) dX9_core_47 rfl ?_
          refine sm_iaload (pc := 48) dX9_core_48 ?_
          refine sm_iload_n (pc := 49) (n := 2) dX9_core_49 rfl ?_
          refine sm_cS (pc := 50) (n := 2) (mc := 0) (ms := 0) m_X9_partBy (cr_X9_298 (X := X_X9_core) (fr := 3) (frc := 1) (pc := 50) (mc := 0) (ms := 0) rfl (by decide) dX9_core_50) ?_
          refine sm_goto (pc := 53) (tgt := 57) dX9_core_53 (by decide) ?_
          exact hj57
      · skip
        refine sm_aload_n (pc := 20) (n := 0) dX9_core_20 rfl ?_
        refine gf_X9_169 (pc := 21) rfl dX9_core_21 ?_
        refine sm_aload_n (pc := 24) (n := 0) dX9_core_24 rfl ?_
        refine gf_X9_184 (pc := 25) rfl dX9_core_25 ?_
        refine sm_aload_n (pc := 28) (n := 0) dX9_core_28 rfl ?_
        refine gf_X9_41 (pc := 29) rfl dX9_core_29 ?_
        refine sm_iload_n (pc := 32) (n := 1) dX9_core_32 rfl ?_
        refine sm_iaload (pc := 33) dX9_core_33 ?_
        refine sm_imul (pc := 34) dX9_core_34 ?_
        refine sm_isub (pc := 35) dX9_core_35 ?_
        exact sm_ireturn (pc := 36) dX9_core_36 rfl
    · skip
      exact hj13
noncomputable def f_X9_core {d : Nat} : List zV → zH d → zP d → Bool := zfn 3 b_X9_core
theorem m_X9_core {d : Nat} : zMet (d := d) X_X9_core yX9_core 3 f_X9_core := zmet_mk (X := X_X9_core) (by decide) rfl rfl s_X9_core

abbrev X_X9_hook : zM := (RX9, cX9_hook, 6, (some .int), "hook")
noncomputable def bX9_hook_38 {d : Nat} (P : zP d) : zK d := (xpI 4294967295 (xiret P))
set_option maxRecDepth 100000 in
set_option maxHeartbeats 4000000 in
theorem sbX9_hook_38 {d : Nat} [zGh] (P : zP d) : zSim X_X9_hook 3 P 38 (bX9_hook_38 P) := by
  unfold bX9_hook_38
  refine sm_iconst (pc := 38) dX9_hook_38 zc_i_m1 ?_
  exact sm_ireturn (pc := 39) dX9_hook_39 rfl
noncomputable def bX9_hook_80 {d : Nat} (P : zP d) (r55 : zK d) : zK d := (xcS 1 0 0 f_X9_one (xbin zadd (xist 4 (xinc 5 1 r55))))
set_option maxRecDepth 100000 in
set_option maxHeartbeats 4000000 in
theorem sbX9_hook_80 {d : Nat} [zGh] (P : zP d) (r55 : zK d) (hr55 : zSim X_X9_hook 3 P 55 r55) : zSim X_X9_hook 3 P 80 (bX9_hook_80 P r55) := by
  unfold bX9_hook_80
  refine sm_cS (pc := 80) (n := 1) (mc := 0) (ms := 0) m_X9_one (cr_X9_187 (X := X_X9_hook) (fr := 3) (frc := 1) (pc := 80) (mc := 0) (ms := 0) rfl (by decide) dX9_hook_80) ?_
  refine sm_iadd (pc := 83) dX9_hook_83 ?_
  refine sm_istore (pc := 84) (n := 4) dX9_hook_84 ?_
  refine sm_iinc (pc := 86) (n := 5) dX9_hook_86 zc_i_1 ?_
  refine sm_goto (pc := 89) (tgt := 55) dX9_hook_89 (by decide) ?_
  exact hr55
noncomputable def lX9_hook_55 {d : Nat} (P : zP d) (r55 : zK d) : zK d := (xild 5 (xpI 6 (xcmp tge (xild 4 (xiret P)) (xild 4 (xald 0 (xild 1 (xild 5 (xcV 25 3 0 0 f_X9_partOf (xild 3 (xjoin (bX9_hook_80 P r55) (fun j80 => (xcmp tle (xpI 0 j80) (xpI 1 j80)))))))))))))
set_option maxRecDepth 100000 in
set_option maxHeartbeats 4000000 in
theorem slX9_hook_55 {d : Nat} [zGh] (P : zP d) (r55 : zK d) (hr55 : zSim X_X9_hook 3 P 55 r55) : zSim X_X9_hook 3 P 55 (lX9_hook_55 P r55) := by
  unfold lX9_hook_55
  refine sm_iload (pc := 55) (n := 5) dX9_hook_55 ?_
  refine sm_bipush (pc := 57) dX9_hook_57 zc_b_6 ?_
  refine sm_icmp_ge (pc := 59) (tgt := 92) dX9_hook_59 (by decide) ?_ ?_
  · skip
    refine sm_iload (pc := 92) (n := 4) dX9_hook_92 ?_
    exact sm_ireturn (pc := 94) dX9_hook_94 rfl
  · skip
    refine sm_iload (pc := 62) (n := 4) dX9_hook_62 ?_
    refine sm_aload_n (pc := 64) (n := 0) dX9_hook_64 rfl ?_
    refine sm_iload_n (pc := 65) (n := 1) dX9_hook_65 rfl ?_
    refine sm_iload (pc := 66) (n := 5) dX9_hook_66 ?_
    refine sm_cV (pc := 68) (ci := 9) (n := 3) (mc := 0) (ms := 0) rfl m_X9_partOf (cr_X9_175 (X := X_X9_hook) (fr := 3) (frc := 1) (pc := 68) (mc := 0) (ms := 0) rfl (by decide) dX9_hook_68) ?_
    refine sm_iload_n (pc := 71) (n := 3) dX9_hook_71 rfl ?_
    refine sm_join (pc := 72) (pc' := 80) (sbX9_hook_80 P r55 hr55) (fun j80 hj80 => ?_)
    refine sm_icmp_le (pc := 72) (tgt := 79) dX9_hook_72 (by decide) ?_ ?_
    · skip
      refine sm_iconst (pc := 79) dX9_hook_79 zc_i_0 ?_
      exact hj80
    · skip
      refine sm_iconst (pc := 75) dX9_hook_75 zc_i_1 ?_
      refine sm_goto (pc := 76) (tgt := 80) dX9_hook_76 (by decide) ?_
      exact hj80
noncomputable def cX9_hook_42 {d : Nat} (P : zP d) : zK d := (xild 2 (xcV 25 3 0 0 f_X9_partOf (xild 3 (xbin zsub (xist 4 (xild 2 (xpI 1 (xbin zadd (xist 5 (xloop (fun r55 => (lX9_hook_55 P r55)) 100000))))))))))
set_option maxRecDepth 100000 in
set_option maxHeartbeats 4000000 in
theorem scX9_hook_42 {d : Nat} [zGh] (P : zP d) : zSim X_X9_hook 3 P 42 (cX9_hook_42 P) := by
  unfold cX9_hook_42
  refine sm_iload_n (pc := 42) (n := 2) dX9_hook_42 rfl ?_
  refine sm_cV (pc := 43) (ci := 9) (n := 3) (mc := 0) (ms := 0) rfl m_X9_partOf (cr_X9_175 (X := X_X9_hook) (fr := 3) (frc := 1) (pc := 43) (mc := 0) (ms := 0) rfl (by decide) dX9_hook_43) ?_
  refine sm_iload_n (pc := 46) (n := 3) dX9_hook_46 rfl ?_
  refine sm_isub (pc := 47) dX9_hook_47 ?_
  refine sm_istore (pc := 48) (n := 4) dX9_hook_48 ?_
  refine sm_iload_n (pc := 50) (n := 2) dX9_hook_50 rfl ?_
  refine sm_iconst (pc := 51) dX9_hook_51 zc_i_1 ?_
  refine sm_iadd (pc := 52) dX9_hook_52 ?_
  refine sm_istore (pc := 53) (n := 5) dX9_hook_53 ?_
  exact sm_loop (fun r55 hr55 => slX9_hook_55 P r55 hr55) _
noncomputable def b_X9_hook {d : Nat} (P : zP d) : zK d := (xald 0 (xild 1 (xcV 25 2 0 0 f_X9_isPart (xjoin (bX9_hook_38 P) (fun j38 => (xif0 t0eq j38 (xild 2 (xi2l (xpL 0 (xpL 5 (xcS 3 0 0 f_X9_isIn (xif0 t0eq j38 (xild 3 (xi2l (xpL 0 (xald 0 (xild 1 (xild 2 (xcV 25 3 0 0 f_X9_partOf (xpI 1 (xbin zsub (xi2l (xcS 3 0 0 f_X9_isIn (xif0 t0eq j38 (xald 0 (xild 1 (cX9_hook_42 P)))))))))))))))))))))))))))
set_option maxRecDepth 100000 in
set_option maxHeartbeats 4000000 in
theorem s_X9_hook {d : Nat} [zGh] (P : zP d) : zSim X_X9_hook 3 P 0 (b_X9_hook P) := by
  unfold b_X9_hook
  refine sm_aload_n (pc := 0) (n := 0) dX9_hook_0 rfl ?_
  refine sm_iload_n (pc := 1) (n := 1) dX9_hook_1 rfl ?_
  refine sm_cV (pc := 2) (ci := 9) (n := 2) (mc := 0) (ms := 0) rfl m_X9_isPart (cr_X9_287 (X := X_X9_hook) (fr := 3) (frc := 2) (pc := 2) (mc := 0) (ms := 0) rfl (by decide) dX9_hook_2) ?_
  refine sm_join (pc := 5) (pc' := 38) (sbX9_hook_38 P) (fun j38 hj38 => ?_)
  refine sm_if_eq (pc := 5) (tgt := 38) dX9_hook_5 (by decide) ?_ ?_
  · skip
    exact hj38
  · skip
    refine sm_iload_n (pc := 8) (n := 2) dX9_hook_8 rfl ?_
    refine sm_i2l (pc := 9) dX9_hook_9 ?_
    refine sm_lconst (pc := 10) dX9_hook_10 zc_l_0 ?_
    refine sm_ldc2 (pc := 11) dX9_hook_11 wd_1247 zc_cl_5 ?_
    refine sm_cS (pc := 14) (n := 3) (mc := 0) (ms := 0) m_X9_isIn (cr_X9_283 (X := X_X9_hook) (fr := 3) (frc := 1) (pc := 14) (mc := 0) (ms := 0) rfl (by decide) dX9_hook_14) ?_
    refine sm_if_eq (pc := 17) (tgt := 38) dX9_hook_17 (by decide) ?_ ?_
    · skip
      exact hj38
    · skip
      refine sm_iload_n (pc := 20) (n := 3) dX9_hook_20 rfl ?_
      refine sm_i2l (pc := 21) dX9_hook_21 ?_
      refine sm_lconst (pc := 22) dX9_hook_22 zc_l_0 ?_
      refine sm_aload_n (pc := 23) (n := 0) dX9_hook_23 rfl ?_
      refine sm_iload_n (pc := 24) (n := 1) dX9_hook_24 rfl ?_
      refine sm_iload_n (pc := 25) (n := 2) dX9_hook_25 rfl ?_
      refine sm_cV (pc := 26) (ci := 9) (n := 3) (mc := 0) (ms := 0) rfl m_X9_partOf (cr_X9_175 (X := X_X9_hook) (fr := 3) (frc := 1) (pc := 26) (mc := 0) (ms := 0) rfl (by decide) dX9_hook_26) ?_
      refine sm_iconst (pc := 29) dX9_hook_29 zc_i_1 ?_
      refine sm_isub (pc := 30) dX9_hook_30 ?_
      refine sm_i2l (pc := 31) dX9_hook_31 ?_
      refine sm_cS (pc := 32) (n := 3) (mc := 0) (ms := 0) m_X9_isIn (cr_X9_283 (X := X_X9_hook) (fr := 3) (frc := 1) (pc := 32) (mc := 0) (ms := 0) rfl (by decide) dX9_hook_32) ?_
      refine sm_if_ne (pc := 35) (tgt := 40) dX9_hook_35 (by decide) ?_ ?_
      · skip
        refine sm_aload_n (pc := 40) (n := 0) dX9_hook_40 rfl ?_
        refine sm_iload_n (pc := 41) (n := 1) dX9_hook_41 rfl ?_
        exact scX9_hook_42 P
      · skip
        exact hj38
noncomputable def f_X9_hook {d : Nat} : List zV → zH d → zP d → Bool := zfn 6 b_X9_hook
theorem m_X9_hook {d : Nat} : zMet (d := d) X_X9_hook yX9_hook 3 f_X9_hook := zmet_mk (X := X_X9_hook) (by decide) rfl rfl s_X9_hook

abbrev X_X9_classOf : zM := (RX9, cX9_classOf, 3, (some .int), "classOf")
noncomputable def bX9_classOf_91 {d : Nat} (P : zP d) : zK d := (xpI 4294967294 (xiret P))
set_option maxRecDepth 100000 in
set_option maxHeartbeats 4000000 in
theorem sbX9_classOf_91 {d : Nat} [zGh] (P : zP d) : zSim X_X9_classOf 3 P 91 (bX9_classOf_91 P) := by
  unfold bX9_classOf_91
  refine sm_bipush (pc := 91) dX9_classOf_91 zc_b_m2 ?_
  exact sm_ireturn (pc := 93) dX9_classOf_93 rfl
noncomputable def bX9_classOf_48 {d : Nat} (P : zP d) : zK d := (xald 0 (xgfR 25 5 (xild 1 (xald1 0 (xiret P)))))
set_option maxRecDepth 100000 in
set_option maxHeartbeats 4000000 in
theorem sbX9_classOf_48 {d : Nat} [zGh] (P : zP d) : zSim X_X9_classOf 3 P 48 (bX9_classOf_48 P) := by
  unfold bX9_classOf_48
  refine sm_aload_n (pc := 48) (n := 0) dX9_classOf_48 rfl ?_
  refine gf_X9_16 (pc := 49) rfl dX9_classOf_49 ?_
  refine sm_iload_n (pc := 52) (n := 1) dX9_classOf_52 rfl ?_
  refine sm_iaload (pc := 53) dX9_classOf_53 ?_
  exact sm_ireturn (pc := 54) dX9_classOf_54 rfl
noncomputable def bX9_classOf_55 {d : Nat} (P : zP d) : zK d := (xald 0 (xgfR 25 6 (xild 1 (xald1 0 (xiret P)))))
set_option maxRecDepth 100000 in
set_option maxHeartbeats 4000000 in
theorem sbX9_classOf_55 {d : Nat} [zGh] (P : zP d) : zSim X_X9_classOf 3 P 55 (bX9_classOf_55 P) := by
  unfold bX9_classOf_55
  refine sm_aload_n (pc := 55) (n := 0) dX9_classOf_55 rfl ?_
  refine gf_X9_19 (pc := 56) rfl dX9_classOf_56 ?_
  refine sm_iload_n (pc := 59) (n := 1) dX9_classOf_59 rfl ?_
  refine sm_iaload (pc := 60) dX9_classOf_60 ?_
  exact sm_ireturn (pc := 61) dX9_classOf_61 rfl
noncomputable def bX9_classOf_62 {d : Nat} (P : zP d) : zK d := (xald 0 (xgfR 25 8 (xild 1 (xald1 1 (xcS 1 0 0 f_X9_one (xiret P))))))
set_option maxRecDepth 100000 in
set_option maxHeartbeats 4000000 in
theorem sbX9_classOf_62 {d : Nat} [zGh] (P : zP d) : zSim X_X9_classOf 3 P 62 (bX9_classOf_62 P) := by
  unfold bX9_classOf_62
  refine sm_aload_n (pc := 62) (n := 0) dX9_classOf_62 rfl ?_
  refine gf_X9_26 (pc := 63) rfl dX9_classOf_63 ?_
  refine sm_iload_n (pc := 66) (n := 1) dX9_classOf_66 rfl ?_
  refine sm_baload (pc := 67) dX9_classOf_67 ?_
  refine sm_cS (pc := 68) (n := 1) (mc := 0) (ms := 0) m_X9_one (cr_X9_187 (X := X_X9_classOf) (fr := 3) (frc := 1) (pc := 68) (mc := 0) (ms := 0) rfl (by decide) dX9_classOf_68) ?_
  exact sm_ireturn (pc := 71) dX9_classOf_71 rfl
noncomputable def bX9_classOf_72 {d : Nat} (P : zP d) : zK d := (xald 0 (xgfR 25 9 (xild 1 (xald1 0 (xiret P)))))
set_option maxRecDepth 100000 in
set_option maxHeartbeats 4000000 in
theorem sbX9_classOf_72 {d : Nat} [zGh] (P : zP d) : zSim X_X9_classOf 3 P 72 (bX9_classOf_72 P) := by
  unfold bX9_classOf_72
  refine sm_aload_n (pc := 72) (n := 0) dX9_classOf_72 rfl ?_
  refine gf_X9_29 (pc := 73) rfl dX9_classOf_73 ?_
  refine sm_iload_n (pc := 76) (n := 1) dX9_classOf_76 rfl ?_
  refine sm_iaload (pc := 77) dX9_classOf_77 ?_
  exact sm_ireturn (pc := 78) dX9_classOf_78 rfl
noncomputable def bX9_classOf_79 {d : Nat} (P : zP d) : zK d := (xald 0 (xgfI 25 12 (xald 0 (xgfR 25 5 (xild 1 (xald1 0 (xbinN zdiv (xiret P))))))))
set_option maxRecDepth 100000 in
set_option maxHeartbeats 4000000 in
theorem sbX9_classOf_79 {d : Nat} [zGh] (P : zP d) : zSim X_X9_classOf 3 P 79 (bX9_classOf_79 P) := by
  unfold bX9_classOf_79
  refine sm_aload_n (pc := 79) (n := 0) dX9_classOf_79 rfl ?_
  refine gf_X9_166 (pc := 80) rfl dX9_classOf_80 ?_
  refine sm_aload_n (pc := 83) (n := 0) dX9_classOf_83 rfl ?_
  refine gf_X9_16 (pc := 84) rfl dX9_classOf_84 ?_
  refine sm_iload_n (pc := 87) (n := 1) dX9_classOf_87 rfl ?_
  refine sm_iaload (pc := 88) dX9_classOf_88 ?_
  refine sm_idiv (pc := 89) dX9_classOf_89 ?_
  exact sm_ireturn (pc := 90) dX9_classOf_90 rfl
noncomputable def b_X9_classOf {d : Nat} (P : zP d) : zK d := (xald 0 (xild 1 (xcV 25 2 0 0 f_X9_isPart (xif0 t0eq (xpI 4294967294 (xiret P)) (xild 2 (xtsw [(bX9_classOf_48 P), (bX9_classOf_55 P), (bX9_classOf_62 P), (bX9_classOf_72 P), (bX9_classOf_79 P)] (bX9_classOf_91 P)))))))
set_option maxRecDepth 100000 in
set_option maxHeartbeats 4000000 in
theorem s_X9_classOf {d : Nat} [zGh] (P : zP d) : zSim X_X9_classOf 3 P 0 (b_X9_classOf P) := by
  unfold b_X9_classOf
  refine sm_aload_n (pc := 0) (n := 0) dX9_classOf_0 rfl ?_
  refine sm_iload_n (pc := 1) (n := 1) dX9_classOf_1 rfl ?_
  refine sm_cV (pc := 2) (ci := 9) (n := 2) (mc := 0) (ms := 0) rfl m_X9_isPart (cr_X9_287 (X := X_X9_classOf) (fr := 3) (frc := 2) (pc := 2) (mc := 0) (ms := 0) rfl (by decide) dX9_classOf_2) ?_
  refine sm_if_ne (pc := 5) (tgt := 11) dX9_classOf_5 (by decide) ?_ ?_
  · skip
    refine sm_iload_n (pc := 11) (n := 2) dX9_classOf_11 rfl ?_
    refine sm_tsw2 (pc := 12) (n := 4) (tdf := 91) [48, 55, 62, 72, 79] rfl (by decide) dX9_classOf_12 rfl (by decide +kernel) (by decide) (sbX9_classOf_91 P) (fun i k t hk ht => ?_)
    match i, hk, ht with
    | 0, hk, ht => cases hk; cases ht; exact sbX9_classOf_48 P
    | 1, hk, ht => cases hk; cases ht; exact sbX9_classOf_55 P
    | 2, hk, ht => cases hk; cases ht; exact sbX9_classOf_62 P
    | 3, hk, ht => cases hk; cases ht; exact sbX9_classOf_72 P
    | 4, hk, ht => cases hk; cases ht; exact sbX9_classOf_79 P
    | i + 5, hk, ht => cases hk
  · skip
    refine sm_bipush (pc := 8) dX9_classOf_8 zc_b_m2 ?_
    exact sm_ireturn (pc := 10) dX9_classOf_10 rfl
noncomputable def f_X9_classOf {d : Nat} : List zV → zH d → zP d → Bool := zfn 3 b_X9_classOf
theorem m_X9_classOf {d : Nat} : zMet (d := d) X_X9_classOf yX9_classOf 3 f_X9_classOf := zmet_mk (X := X_X9_classOf) (by decide) rfl rfl s_X9_classOf

abbrev X_X9_character : zM := (RX9, cX9_character, 3, (some .int), "character")
noncomputable def bX9_character_33 {d : Nat} (P : zP d) : zK d := (xiret P)
set_option maxRecDepth 100000 in
set_option maxHeartbeats 4000000 in
theorem sbX9_character_33 {d : Nat} [zGh] (P : zP d) : zSim X_X9_character 3 P 33 (bX9_character_33 P) := by
  unfold bX9_character_33
  exact sm_ireturn (pc := 33) dX9_character_33 rfl
noncomputable def bX9_character_30 {d : Nat} (P : zP d) (j33 : zK d) : zK d := (xpI 4294966295 j33)
set_option maxRecDepth 100000 in
set_option maxHeartbeats 4000000 in
theorem sbX9_character_30 {d : Nat} [zGh] (P : zP d) (j33 : zK d) (hj33 : zSim X_X9_character 3 P 33 j33) : zSim X_X9_character 3 P 30 (bX9_character_30 P j33) := by
  unfold bX9_character_30
  refine sm_sipush (pc := 30) dX9_character_30 zc_s_m1001 ?_
  exact hj33
noncomputable def b_X9_character {d : Nat} (P : zP d) : zK d := (xald 0 (xild 1 (xcV 25 2 0 0 f_X9_isPart (xjoin (bX9_character_33 P) (fun j33 => (xjoin (bX9_character_30 P j33) (fun j30 => (xif0 t0eq j30 (xald 0 (xild 2 (xcV 25 2 0 0 f_X9_isPart (xif0 t0eq j30 (xald 0 (xgfR 25 14 (xpI 11 (xild 1 (xbin zmul (xild 2 (xbin zadd (xald1 0 j33))))))))))))))))))))
set_option maxRecDepth 100000 in
set_option maxHeartbeats 4000000 in
theorem s_X9_character {d : Nat} [zGh] (P : zP d) : zSim X_X9_character 3 P 0 (b_X9_character P) := by
  unfold b_X9_character
  refine sm_aload_n (pc := 0) (n := 0) dX9_character_0 rfl ?_
  refine sm_iload_n (pc := 1) (n := 1) dX9_character_1 rfl ?_
  refine sm_cV (pc := 2) (ci := 9) (n := 2) (mc := 0) (ms := 0) rfl m_X9_isPart (cr_X9_287 (X := X_X9_character) (fr := 3) (frc := 2) (pc := 2) (mc := 0) (ms := 0) rfl (by decide) dX9_character_2) ?_
  refine sm_join (pc := 5) (pc' := 33) (sbX9_character_33 P) (fun j33 hj33 => ?_)
  refine sm_join (pc := 5) (pc' := 30) (sbX9_character_30 P j33 hj33) (fun j30 hj30 => ?_)
  refine sm_if_eq (pc := 5) (tgt := 30) dX9_character_5 (by decide) ?_ ?_
  · skip
    exact hj30
  · skip
    refine sm_aload_n (pc := 8) (n := 0) dX9_character_8 rfl ?_
    refine sm_iload_n (pc := 9) (n := 2) dX9_character_9 rfl ?_
    refine sm_cV (pc := 10) (ci := 9) (n := 2) (mc := 0) (ms := 0) rfl m_X9_isPart (cr_X9_287 (X := X_X9_character) (fr := 3) (frc := 2) (pc := 10) (mc := 0) (ms := 0) rfl (by decide) dX9_character_10) ?_
    refine sm_if_eq (pc := 13) (tgt := 30) dX9_character_13 (by decide) ?_ ?_
    · skip
      exact hj30
    · skip
      refine sm_aload_n (pc := 16) (n := 0) dX9_character_16 rfl ?_
      refine gf_X9_38 (pc := 17) rfl dX9_character_17 ?_
      refine sm_bipush (pc := 20) dX9_character_20 zc_b_11 ?_
      refine sm_iload_n (pc := 22) (n := 1) dX9_character_22 rfl ?_
      refine sm_imul (pc := 23) dX9_character_23 ?_
      refine sm_iload_n (pc := 24) (n := 2) dX9_character_24 rfl ?_
      refine sm_iadd (pc := 25) dX9_character_25 ?_
      refine sm_iaload (pc := 26) dX9_character_26 ?_
      refine sm_goto (pc := 27) (tgt := 33) dX9_character_27 (by decide) ?_
      exact hj33
noncomputable def f_X9_character {d : Nat} : List zV → zH d → zP d → Bool := zfn 3 b_X9_character
theorem m_X9_character {d : Nat} : zMet (d := d) X_X9_character yX9_character 3 f_X9_character := zmet_mk (X := X_X9_character) (by decide) rfl rfl s_X9_character

abbrev X_X9_modular : zM := (RX9, cX9_modular, 3, (some .int), "modular")
noncomputable def bX9_modular_51 {d : Nat} (P : zP d) : zK d := (xiret P)
set_option maxRecDepth 100000 in
set_option maxHeartbeats 4000000 in
theorem sbX9_modular_51 {d : Nat} [zGh] (P : zP d) : zSim X_X9_modular 3 P 51 (bX9_modular_51 P) := by
  unfold bX9_modular_51
  exact sm_ireturn (pc := 51) dX9_modular_51 rfl
noncomputable def bX9_modular_48 {d : Nat} (P : zP d) (j51 : zK d) : zK d := (xpI 4294966295 j51)
set_option maxRecDepth 100000 in
set_option maxHeartbeats 4000000 in
theorem sbX9_modular_48 {d : Nat} [zGh] (P : zP d) (j51 : zK d) (hj51 : zSim X_X9_modular 3 P 51 j51) : zSim X_X9_modular 3 P 48 (bX9_modular_48 P j51) := by
  unfold bX9_modular_48
  refine sm_sipush (pc := 48) dX9_modular_48 zc_s_m1001 ?_
  exact hj51
noncomputable def cX9_modular_43 {d : Nat} (P : zP d) (j51 : zK d) : zK d := (xbin zadd (xald1 0 j51))
set_option maxRecDepth 100000 in
set_option maxHeartbeats 4000000 in
theorem scX9_modular_43 {d : Nat} [zGh] (P : zP d) (j51 : zK d) (hj51 : zSim X_X9_modular 3 P 51 j51) : zSim X_X9_modular 3 P 43 (cX9_modular_43 P j51) := by
  unfold cX9_modular_43
  refine sm_iadd (pc := 43) dX9_modular_43 ?_
  refine sm_iaload (pc := 44) dX9_modular_44 ?_
  refine sm_goto (pc := 45) (tgt := 51) dX9_modular_45 (by decide) ?_
  exact hj51
noncomputable def b_X9_modular {d : Nat} (P : zP d) : zK d := (xald 0 (xild 1 (xcV 25 2 0 0 f_X9_isPart (xjoin (bX9_modular_51 P) (fun j51 => (xjoin (bX9_modular_48 P j51) (fun j48 => (xif0 t0eq j48 (xald 0 (xild 2 (xcV 25 2 0 0 f_X9_isPart (xif0 t0eq j48 (xald 0 (xgfR 25 7 (xild 1 (xald1 1 (xif0 t0eq j48 (xald 0 (xgfR 25 8 (xild 2 (xald1 1 (xif0 t0eq j48 (xald 0 (xgfR 25 37 (xpI 11 (xild 1 (xbin zmul (xild 2 (cX9_modular_43 P j51)))))))))))))))))))))))))))))
set_option maxRecDepth 100000 in
set_option maxHeartbeats 4000000 in
theorem s_X9_modular {d : Nat} [zGh] (P : zP d) : zSim X_X9_modular 3 P 0 (b_X9_modular P) := by
  unfold b_X9_modular
  refine sm_aload_n (pc := 0) (n := 0) dX9_modular_0 rfl ?_
  refine sm_iload_n (pc := 1) (n := 1) dX9_modular_1 rfl ?_
  refine sm_cV (pc := 2) (ci := 9) (n := 2) (mc := 0) (ms := 0) rfl m_X9_isPart (cr_X9_287 (X := X_X9_modular) (fr := 3) (frc := 2) (pc := 2) (mc := 0) (ms := 0) rfl (by decide) dX9_modular_2) ?_
  refine sm_join (pc := 5) (pc' := 51) (sbX9_modular_51 P) (fun j51 hj51 => ?_)
  refine sm_join (pc := 5) (pc' := 48) (sbX9_modular_48 P j51 hj51) (fun j48 hj48 => ?_)
  refine sm_if_eq (pc := 5) (tgt := 48) dX9_modular_5 (by decide) ?_ ?_
  · skip
    exact hj48
  · skip
    refine sm_aload_n (pc := 8) (n := 0) dX9_modular_8 rfl ?_
    refine sm_iload_n (pc := 9) (n := 2) dX9_modular_9 rfl ?_
    refine sm_cV (pc := 10) (ci := 9) (n := 2) (mc := 0) (ms := 0) rfl m_X9_isPart (cr_X9_287 (X := X_X9_modular) (fr := 3) (frc := 2) (pc := 10) (mc := 0) (ms := 0) rfl (by decide) dX9_modular_10) ?_
    refine sm_if_eq (pc := 13) (tgt := 48) dX9_modular_13 (by decide) ?_ ?_
    · skip
      exact hj48
    · skip
      refine sm_aload_n (pc := 16) (n := 0) dX9_modular_16 rfl ?_
      refine gf_X9_22 (pc := 17) rfl dX9_modular_17 ?_
      refine sm_iload_n (pc := 20) (n := 1) dX9_modular_20 rfl ?_
      refine sm_baload (pc := 21) dX9_modular_21 ?_
      refine sm_if_eq (pc := 22) (tgt := 48) dX9_modular_22 (by decide) ?_ ?_
      · skip
        exact hj48
      · skip
        refine sm_aload_n (pc := 25) (n := 0) dX9_modular_25 rfl ?_
        refine gf_X9_26 (pc := 26) rfl dX9_modular_26 ?_
        refine sm_iload_n (pc := 29) (n := 2) dX9_modular_29 rfl ?_
        refine sm_baload (pc := 30) dX9_modular_30 ?_
        refine sm_if_eq (pc := 31) (tgt := 48) dX9_modular_31 (by decide) ?_ ?_
        · skip
          exact hj48
        · skip
          refine sm_aload_n (pc := 34) (n := 0) dX9_modular_34 rfl ?_
          refine gf_X9_96 (pc := 35) rfl dX9_modular_35 ?_
          refine sm_bipush (pc := 38) dX9_modular_38 zc_b_11 ?_
          refine sm_iload_n (pc := 40) (n := 1) dX9_modular_40 rfl ?_
          refine sm_imul (pc := 41) dX9_modular_41 ?_
          refine sm_iload_n (pc := 42) (n := 2) dX9_modular_42 rfl ?_
          exact scX9_modular_43 P j51 hj51
noncomputable def f_X9_modular {d : Nat} : List zV → zH d → zP d → Bool := zfn 3 b_X9_modular
theorem m_X9_modular {d : Nat} : zMet (d := d) X_X9_modular yX9_modular 3 f_X9_modular := zmet_mk (X := X_X9_modular) (by decide) rfl rfl s_X9_modular

abbrev X_X9_projective : zM := (RX9, cX9_projective, 3, (some .int), "projective")
noncomputable def bX9_projective_42 {d : Nat} (P : zP d) : zK d := (xiret P)
set_option maxRecDepth 100000 in
set_option maxHeartbeats 4000000 in
theorem sbX9_projective_42 {d : Nat} [zGh] (P : zP d) : zSim X_X9_projective 3 P 42 (bX9_projective_42 P) := by
  unfold bX9_projective_42
  exact sm_ireturn (pc := 42) dX9_projective_42 rfl
noncomputable def bX9_projective_39 {d : Nat} (P : zP d) (j42 : zK d) : zK d := (xpI 4294966295 j42)
set_option maxRecDepth 100000 in
set_option maxHeartbeats 4000000 in
theorem sbX9_projective_39 {d : Nat} [zGh] (P : zP d) (j42 : zK d) (hj42 : zSim X_X9_projective 3 P 42 j42) : zSim X_X9_projective 3 P 39 (bX9_projective_39 P j42) := by
  unfold bX9_projective_39
  refine sm_sipush (pc := 39) dX9_projective_39 zc_s_m1001 ?_
  exact hj42
noncomputable def b_X9_projective {d : Nat} (P : zP d) : zK d := (xald 0 (xild 1 (xcV 25 2 0 0 f_X9_isPart (xjoin (bX9_projective_42 P) (fun j42 => (xjoin (bX9_projective_39 P j42) (fun j39 => (xif0 t0eq j39 (xald 0 (xild 2 (xcV 25 2 0 0 f_X9_isPart (xif0 t0eq j39 (xald 0 (xgfR 25 7 (xild 1 (xald1 1 (xif0 t0eq j39 (xald 0 (xgfR 25 40 (xpI 11 (xild 1 (xbin zmul (xild 2 (xbin zadd (xald1 0 j42)))))))))))))))))))))))))
set_option maxRecDepth 100000 in
set_option maxHeartbeats 4000000 in
theorem s_X9_projective {d : Nat} [zGh] (P : zP d) : zSim X_X9_projective 3 P 0 (b_X9_projective P) := by
  unfold b_X9_projective
  refine sm_aload_n (pc := 0) (n := 0) dX9_projective_0 rfl ?_
  refine sm_iload_n (pc := 1) (n := 1) dX9_projective_1 rfl ?_
  refine sm_cV (pc := 2) (ci := 9) (n := 2) (mc := 0) (ms := 0) rfl m_X9_isPart (cr_X9_287 (X := X_X9_projective) (fr := 3) (frc := 2) (pc := 2) (mc := 0) (ms := 0) rfl (by decide) dX9_projective_2) ?_
  refine sm_join (pc := 5) (pc' := 42) (sbX9_projective_42 P) (fun j42 hj42 => ?_)
  refine sm_join (pc := 5) (pc' := 39) (sbX9_projective_39 P j42 hj42) (fun j39 hj39 => ?_)
  refine sm_if_eq (pc := 5) (tgt := 39) dX9_projective_5 (by decide) ?_ ?_
  · skip
    exact hj39
  · skip
    refine sm_aload_n (pc := 8) (n := 0) dX9_projective_8 rfl ?_
    refine sm_iload_n (pc := 9) (n := 2) dX9_projective_9 rfl ?_
    refine sm_cV (pc := 10) (ci := 9) (n := 2) (mc := 0) (ms := 0) rfl m_X9_isPart (cr_X9_287 (X := X_X9_projective) (fr := 3) (frc := 2) (pc := 10) (mc := 0) (ms := 0) rfl (by decide) dX9_projective_10) ?_
    refine sm_if_eq (pc := 13) (tgt := 39) dX9_projective_13 (by decide) ?_ ?_
    · skip
      exact hj39
    · skip
      refine sm_aload_n (pc := 16) (n := 0) dX9_projective_16 rfl ?_
      refine gf_X9_22 (pc := 17) rfl dX9_projective_17 ?_
      refine sm_iload_n (pc := 20) (n := 1) dX9_projective_20 rfl ?_
      refine sm_baload (pc := 21) dX9_projective_21 ?_
      refine sm_if_eq (pc := 22) (tgt := 39) dX9_projective_22 (by decide) ?_ ?_
      · skip
        exact hj39
      · skip
        refine sm_aload_n (pc := 25) (n := 0) dX9_projective_25 rfl ?_
        refine gf_X9_105 (pc := 26) rfl dX9_projective_26 ?_
        refine sm_bipush (pc := 29) dX9_projective_29 zc_b_11 ?_
        refine sm_iload_n (pc := 31) (n := 1) dX9_projective_31 rfl ?_
        refine sm_imul (pc := 32) dX9_projective_32 ?_
        refine sm_iload_n (pc := 33) (n := 2) dX9_projective_33 rfl ?_
        refine sm_iadd (pc := 34) dX9_projective_34 ?_
        refine sm_iaload (pc := 35) dX9_projective_35 ?_
        refine sm_goto (pc := 36) (tgt := 42) dX9_projective_36 (by decide) ?_
        exact hj42
noncomputable def f_X9_projective {d : Nat} : List zV → zH d → zP d → Bool := zfn 3 b_X9_projective
theorem m_X9_projective {d : Nat} : zMet (d := d) X_X9_projective yX9_projective 3 f_X9_projective := zmet_mk (X := X_X9_projective) (by decide) rfl rfl s_X9_projective

abbrev X_X9_isRegularOne : zM := (RX9, cX9_isRegularOne, 2, (some .boolean), "isRegularOne")
noncomputable def bX9_isRegularOne_22 {d : Nat} (P : zP d) : zK d := (xzret P)
set_option maxRecDepth 100000 in
set_option maxHeartbeats 4000000 in
theorem sbX9_isRegularOne_22 {d : Nat} [zGh] (P : zP d) : zSim X_X9_isRegularOne 3 P 22 (bX9_isRegularOne_22 P) := by
  unfold bX9_isRegularOne_22
  exact sm_zreturn (pc := 22) dX9_isRegularOne_22 rfl
noncomputable def bX9_isRegularOne_21 {d : Nat} (P : zP d) (j22 : zK d) : zK d := (xpI 0 j22)
set_option maxRecDepth 100000 in
set_option maxHeartbeats 4000000 in
theorem sbX9_isRegularOne_21 {d : Nat} [zGh] (P : zP d) (j22 : zK d) (hj22 : zSim X_X9_isRegularOne 3 P 22 j22) : zSim X_X9_isRegularOne 3 P 21 (bX9_isRegularOne_21 P j22) := by
  unfold bX9_isRegularOne_21
  refine sm_iconst (pc := 21) dX9_isRegularOne_21 zc_i_0 ?_
  exact hj22
noncomputable def b_X9_isRegularOne {d : Nat} (P : zP d) : zK d := (xald 0 (xild 1 (xcV 25 2 0 0 f_X9_isPart (xjoin (bX9_isRegularOne_22 P) (fun j22 => (xjoin (bX9_isRegularOne_21 P j22) (fun j21 => (xif0 t0eq j21 (xald 0 (xgfR 25 7 (xild 1 (xald1 1 (xif0 t0eq j21 (xpI 1 j22))))))))))))))
set_option maxRecDepth 100000 in
set_option maxHeartbeats 4000000 in
theorem s_X9_isRegularOne {d : Nat} [zGh] (P : zP d) : zSim X_X9_isRegularOne 3 P 0 (b_X9_isRegularOne P) := by
  unfold b_X9_isRegularOne
  refine sm_aload_n (pc := 0) (n := 0) dX9_isRegularOne_0 rfl ?_
  refine sm_iload_n (pc := 1) (n := 1) dX9_isRegularOne_1 rfl ?_
  refine sm_cV (pc := 2) (ci := 9) (n := 2) (mc := 0) (ms := 0) rfl m_X9_isPart (cr_X9_287 (X := X_X9_isRegularOne) (fr := 3) (frc := 2) (pc := 2) (mc := 0) (ms := 0) rfl (by decide) dX9_isRegularOne_2) ?_
  refine sm_join (pc := 5) (pc' := 22) (sbX9_isRegularOne_22 P) (fun j22 hj22 => ?_)
  refine sm_join (pc := 5) (pc' := 21) (sbX9_isRegularOne_21 P j22 hj22) (fun j21 hj21 => ?_)
  refine sm_if_eq (pc := 5) (tgt := 21) dX9_isRegularOne_5 (by decide) ?_ ?_
  · skip
    exact hj21
  · skip
    refine sm_aload_n (pc := 8) (n := 0) dX9_isRegularOne_8 rfl ?_
    refine gf_X9_22 (pc := 9) rfl dX9_isRegularOne_9 ?_
    refine sm_iload_n (pc := 12) (n := 1) dX9_isRegularOne_12 rfl ?_
    refine sm_baload (pc := 13) dX9_isRegularOne_13 ?_
    refine sm_if_eq (pc := 14) (tgt := 21) dX9_isRegularOne_14 (by decide) ?_ ?_
    · skip
      exact hj21
    · skip
      refine sm_iconst (pc := 17) dX9_isRegularOne_17 zc_i_1 ?_
      refine sm_goto (pc := 18) (tgt := 22) dX9_isRegularOne_18 (by decide) ?_
      exact hj22
noncomputable def f_X9_isRegularOne {d : Nat} : List zV → zH d → zP d → Bool := zfn 2 b_X9_isRegularOne
theorem m_X9_isRegularOne {d : Nat} : zMet (d := d) X_X9_isRegularOne yX9_isRegularOne 3 f_X9_isRegularOne := zmet_mk (X := X_X9_isRegularOne) (by decide) rfl rfl s_X9_isRegularOne

abbrev X_X9_decomposition : zM := (RX9, cX9_decomposition, 3, (some .int), "decomposition")
noncomputable def bX9_decomposition_36 {d : Nat} (P : zP d) : zK d := (xiret P)
set_option maxRecDepth 100000 in
set_option maxHeartbeats 4000000 in
theorem sbX9_decomposition_36 {d : Nat} [zGh] (P : zP d) : zSim X_X9_decomposition 4 P 36 (bX9_decomposition_36 P) := by
  unfold bX9_decomposition_36
  exact sm_ireturn (pc := 36) dX9_decomposition_36 rfl
noncomputable def bX9_decomposition_35 {d : Nat} (P : zP d) (j36 : zK d) : zK d := (xpI 4294967295 j36)
set_option maxRecDepth 100000 in
set_option maxHeartbeats 4000000 in
theorem sbX9_decomposition_35 {d : Nat} [zGh] (P : zP d) (j36 : zK d) (hj36 : zSim X_X9_decomposition 4 P 36 j36) : zSim X_X9_decomposition 4 P 35 (bX9_decomposition_35 P j36) := by
  unfold bX9_decomposition_35
  refine sm_iconst (pc := 35) dX9_decomposition_35 zc_i_m1 ?_
  exact hj36
noncomputable def b_X9_decomposition {d : Nat} (P : zP d) : zK d := (xald 0 (xild 1 (xcV 25 2 0 0 f_X9_isPart (xjoin (bX9_decomposition_36 P) (fun j36 => (xjoin (bX9_decomposition_35 P j36) (fun j35 => (xif0 t0eq j35 (xald 0 (xild 2 (xcV 25 2 0 0 f_X9_isRegularOne (xif0 t0eq j35 (xald 0 (xgfR 25 38 (xpI 11 (xild 1 (xbin zmul (xald 0 (xgfR 25 10 (xild 2 (xald1 0 (xbin zadd (xald1 0 j36)))))))))))))))))))))))
set_option maxRecDepth 100000 in
set_option maxHeartbeats 4000000 in
theorem s_X9_decomposition {d : Nat} [zGh] (P : zP d) : zSim X_X9_decomposition 4 P 0 (b_X9_decomposition P) := by
  unfold b_X9_decomposition
  refine sm_aload_n (pc := 0) (n := 0) dX9_decomposition_0 rfl ?_
  refine sm_iload_n (pc := 1) (n := 1) dX9_decomposition_1 rfl ?_
  refine sm_cV (pc := 2) (ci := 9) (n := 2) (mc := 0) (ms := 0) rfl m_X9_isPart (cr_X9_287 (X := X_X9_decomposition) (fr := 4) (frc := 2) (pc := 2) (mc := 0) (ms := 0) rfl (by decide) dX9_decomposition_2) ?_
  refine sm_join (pc := 5) (pc' := 36) (sbX9_decomposition_36 P) (fun j36 hj36 => ?_)
  refine sm_join (pc := 5) (pc' := 35) (sbX9_decomposition_35 P j36 hj36) (fun j35 hj35 => ?_)
  refine sm_if_eq (pc := 5) (tgt := 35) dX9_decomposition_5 (by decide) ?_ ?_
  · skip
    exact hj35
  · skip
    refine sm_aload_n (pc := 8) (n := 0) dX9_decomposition_8 rfl ?_
    refine sm_iload_n (pc := 9) (n := 2) dX9_decomposition_9 rfl ?_
    refine sm_cV (pc := 10) (ci := 9) (n := 2) (mc := 0) (ms := 0) rfl m_X9_isRegularOne (cr_X9_303 (X := X_X9_decomposition) (fr := 4) (frc := 3) (pc := 10) (mc := 0) (ms := 0) rfl (by decide) dX9_decomposition_10) ?_
    refine sm_if_eq (pc := 13) (tgt := 35) dX9_decomposition_13 (by decide) ?_ ?_
    · skip
      exact hj35
    · skip
      refine sm_aload_n (pc := 16) (n := 0) dX9_decomposition_16 rfl ?_
      refine gf_X9_99 (pc := 17) rfl dX9_decomposition_17 ?_
      refine sm_bipush (pc := 20) dX9_decomposition_20 zc_b_11 ?_
      refine sm_iload_n (pc := 22) (n := 1) dX9_decomposition_22 rfl ?_
      refine sm_imul (pc := 23) dX9_decomposition_23 ?_
      refine sm_aload_n (pc := 24) (n := 0) dX9_decomposition_24 rfl ?_
      refine gf_X9_32 (pc := 25) rfl dX9_decomposition_25 ?_
      refine sm_iload_n (pc := 28) (n := 2) dX9_decomposition_28 rfl ?_
      refine sm_iaload (pc := 29) dX9_decomposition_29 ?_
      refine sm_iadd (pc := 30) dX9_decomposition_30 ?_
      refine sm_iaload (pc := 31) dX9_decomposition_31 ?_
      refine sm_goto (pc := 32) (tgt := 36) dX9_decomposition_32 (by decide) ?_
      exact hj36
noncomputable def f_X9_decomposition {d : Nat} : List zV → zH d → zP d → Bool := zfn 3 b_X9_decomposition
theorem m_X9_decomposition {d : Nat} : zMet (d := d) X_X9_decomposition yX9_decomposition 4 f_X9_decomposition := zmet_mk (X := X_X9_decomposition) (by decide) rfl rfl s_X9_decomposition

abbrev X_X9_cartanOf : zM := (RX9, cX9_cartanOf, 5, (some .int), "cartanOf")
noncomputable def cX9_cartanOf_46 {d : Nat} (P : zP d) (r5 : zK d) : zK d := (xald1 0 (xbin zadd (xald1 0 (xbin zmul (xbin zadd (xist 3 (xinc 4 1 r5)))))))
set_option maxRecDepth 100000 in
set_option maxHeartbeats 4000000 in
theorem scX9_cartanOf_46 {d : Nat} [zGh] (P : zP d) (r5 : zK d) (hr5 : zSim X_X9_cartanOf 1 P 5 r5) : zSim X_X9_cartanOf 1 P 46 (cX9_cartanOf_46 P r5) := by
  unfold cX9_cartanOf_46
  refine sm_iaload (pc := 46) dX9_cartanOf_46 ?_
  refine sm_iadd (pc := 47) dX9_cartanOf_47 ?_
  refine sm_iaload (pc := 48) dX9_cartanOf_48 ?_
  refine sm_imul (pc := 49) dX9_cartanOf_49 ?_
  refine sm_iadd (pc := 50) dX9_cartanOf_50 ?_
  refine sm_istore_n (pc := 51) (n := 3) dX9_cartanOf_51 rfl ?_
  refine sm_iinc (pc := 52) (n := 4) dX9_cartanOf_52 zc_i_1 ?_
  refine sm_goto (pc := 55) (tgt := 5) dX9_cartanOf_55 (by decide) ?_
  exact hr5
noncomputable def lX9_cartanOf_5 {d : Nat} (P : zP d) (r5 : zK d) : zK d := (xild 4 (xald 0 (xgfI 25 2 (xcmp tge (xild 3 (xiret P)) (xild 3 (xald 0 (xgfR 25 38 (xpI 11 (xild 4 (xbin zmul (xald 0 (xgfR 25 10 (xild 1 (xald1 0 (xbin zadd (xald1 0 (xald 0 (xgfR 25 38 (xpI 11 (xild 4 (xbin zmul (xald 0 (xgfR 25 10 (xild 2 (cX9_cartanOf_46 P r5)))))))))))))))))))))))))
set_option maxRecDepth 100000 in
set_option maxHeartbeats 4000000 in
theorem slX9_cartanOf_5 {d : Nat} [zGh] (P : zP d) (r5 : zK d) (hr5 : zSim X_X9_cartanOf 1 P 5 r5) : zSim X_X9_cartanOf 1 P 5 (lX9_cartanOf_5 P r5) := by
  unfold lX9_cartanOf_5
  refine sm_iload (pc := 5) (n := 4) dX9_cartanOf_5 ?_
  refine sm_aload_n (pc := 7) (n := 0) dX9_cartanOf_7 rfl ?_
  refine gf_X9_153 (pc := 8) rfl dX9_cartanOf_8 ?_
  refine sm_icmp_ge (pc := 11) (tgt := 58) dX9_cartanOf_11 (by decide) ?_ ?_
  · skip
    refine sm_iload_n (pc := 58) (n := 3) dX9_cartanOf_58 rfl ?_
    exact sm_ireturn (pc := 59) dX9_cartanOf_59 rfl
  · skip
    refine sm_iload_n (pc := 14) (n := 3) dX9_cartanOf_14 rfl ?_
    refine sm_aload_n (pc := 15) (n := 0) dX9_cartanOf_15 rfl ?_
    refine gf_X9_99 (pc := 16) rfl dX9_cartanOf_16 ?_
    refine sm_bipush (pc := 19) dX9_cartanOf_19 zc_b_11 ?_
    refine sm_iload (pc := 21) (n := 4) dX9_cartanOf_21 ?_
    refine sm_imul (pc := 23) dX9_cartanOf_23 ?_
    refine sm_aload_n (pc := 24) (n := 0) dX9_cartanOf_24 rfl ?_
    refine gf_X9_32 (pc := 25) rfl dX9_cartanOf_25 ?_
    refine sm_iload_n (pc := 28) (n := 1) dX9_cartanOf_28 rfl ?_
    refine sm_iaload (pc := 29) dX9_cartanOf_29 ?_
    refine sm_iadd (pc := 30) dX9_cartanOf_30 ?_
    refine sm_iaload (pc := 31) dX9_cartanOf_31 ?_
    refine sm_aload_n (pc := 32) (n := 0) dX9_cartanOf_32 rfl ?_
    refine gf_X9_99 (pc := 33) rfl dX9_cartanOf_33 ?_
    refine sm_bipush (pc := 36) dX9_cartanOf_36 zc_b_11 ?_
    refine sm_iload (pc := 38) (n := 4) dX9_cartanOf_38 ?_
    refine sm_imul (pc := 40) dX9_cartanOf_40 ?_
    refine sm_aload_n (pc := 41) (n := 0) dX9_cartanOf_41 rfl ?_
    refine gf_X9_32 (pc := 42) rfl dX9_cartanOf_42 ?_
    refine sm_iload_n (pc := 45) (n := 2) dX9_cartanOf_45 rfl ?_
    exact scX9_cartanOf_46 P r5 hr5
noncomputable def b_X9_cartanOf {d : Nat} (P : zP d) : zK d := (xpI 0 (xist 3 (xpI 0 (xist 4 (xloop (fun r5 => (lX9_cartanOf_5 P r5)) 100000)))))
set_option maxRecDepth 100000 in
set_option maxHeartbeats 4000000 in
theorem s_X9_cartanOf {d : Nat} [zGh] (P : zP d) : zSim X_X9_cartanOf 1 P 0 (b_X9_cartanOf P) := by
  unfold b_X9_cartanOf
  refine sm_iconst (pc := 0) dX9_cartanOf_0 zc_i_0 ?_
  refine sm_istore_n (pc := 1) (n := 3) dX9_cartanOf_1 rfl ?_
  refine sm_iconst (pc := 2) dX9_cartanOf_2 zc_i_0 ?_
  refine sm_istore (pc := 3) (n := 4) dX9_cartanOf_3 ?_
  exact sm_loop (fun r5 hr5 => slX9_cartanOf_5 P r5 hr5) _
noncomputable def f_X9_cartanOf {d : Nat} : List zV → zH d → zP d → Bool := zfn 5 b_X9_cartanOf
theorem m_X9_cartanOf {d : Nat} : zMet (d := d) X_X9_cartanOf yX9_cartanOf 1 f_X9_cartanOf := zmet_mk (X := X_X9_cartanOf) (by decide) rfl rfl s_X9_cartanOf

abbrev X_X9_cartan : zM := (RX9, cX9_cartan, 3, (some .int), "cartan")
noncomputable def bX9_cartan_26 {d : Nat} (P : zP d) : zK d := (xiret P)
set_option maxRecDepth 100000 in
set_option maxHeartbeats 4000000 in
theorem sbX9_cartan_26 {d : Nat} [zGh] (P : zP d) : zSim X_X9_cartan 4 P 26 (bX9_cartan_26 P) := by
  unfold bX9_cartan_26
  exact sm_ireturn (pc := 26) dX9_cartan_26 rfl
noncomputable def bX9_cartan_25 {d : Nat} (P : zP d) (j26 : zK d) : zK d := (xpI 4294967295 j26)
set_option maxRecDepth 100000 in
set_option maxHeartbeats 4000000 in
theorem sbX9_cartan_25 {d : Nat} [zGh] (P : zP d) (j26 : zK d) (hj26 : zSim X_X9_cartan 4 P 26 j26) : zSim X_X9_cartan 4 P 25 (bX9_cartan_25 P j26) := by
  unfold bX9_cartan_25
  refine sm_iconst (pc := 25) dX9_cartan_25 zc_i_m1 ?_
  exact hj26
noncomputable def b_X9_cartan {d : Nat} (P : zP d) : zK d := (xald 0 (xild 1 (xcV 25 2 0 0 f_X9_isRegularOne (xjoin (bX9_cartan_26 P) (fun j26 => (xjoin (bX9_cartan_25 P j26) (fun j25 => (xif0 t0eq j25 (xald 0 (xild 2 (xcV 25 2 0 0 f_X9_isRegularOne (xif0 t0eq j25 (xald 0 (xild 1 (xild 2 (xcV 25 3 0 0 f_X9_cartanOf j26))))))))))))))))
set_option maxRecDepth 100000 in
set_option maxHeartbeats 4000000 in
theorem s_X9_cartan {d : Nat} [zGh] (P : zP d) : zSim X_X9_cartan 4 P 0 (b_X9_cartan P) := by
  unfold b_X9_cartan
  refine sm_aload_n (pc := 0) (n := 0) dX9_cartan_0 rfl ?_
  refine sm_iload_n (pc := 1) (n := 1) dX9_cartan_1 rfl ?_
  refine sm_cV (pc := 2) (ci := 9) (n := 2) (mc := 0) (ms := 0) rfl m_X9_isRegularOne (cr_X9_303 (X := X_X9_cartan) (fr := 4) (frc := 3) (pc := 2) (mc := 0) (ms := 0) rfl (by decide) dX9_cartan_2) ?_
  refine sm_join (pc := 5) (pc' := 26) (sbX9_cartan_26 P) (fun j26 hj26 => ?_)
  refine sm_join (pc := 5) (pc' := 25) (sbX9_cartan_25 P j26 hj26) (fun j25 hj25 => ?_)
  refine sm_if_eq (pc := 5) (tgt := 25) dX9_cartan_5 (by decide) ?_ ?_
  · skip
    exact hj25
  · skip
    refine sm_aload_n (pc := 8) (n := 0) dX9_cartan_8 rfl ?_
    refine sm_iload_n (pc := 9) (n := 2) dX9_cartan_9 rfl ?_
    refine sm_cV (pc := 10) (ci := 9) (n := 2) (mc := 0) (ms := 0) rfl m_X9_isRegularOne (cr_X9_303 (X := X_X9_cartan) (fr := 4) (frc := 3) (pc := 10) (mc := 0) (ms := 0) rfl (by decide) dX9_cartan_10) ?_
    refine sm_if_eq (pc := 13) (tgt := 25) dX9_cartan_13 (by decide) ?_ ?_
    · skip
      exact hj25
    · skip
      refine sm_aload_n (pc := 16) (n := 0) dX9_cartan_16 rfl ?_
      refine sm_iload_n (pc := 17) (n := 1) dX9_cartan_17 rfl ?_
      refine sm_iload_n (pc := 18) (n := 2) dX9_cartan_18 rfl ?_
      refine sm_cV (pc := 19) (ci := 9) (n := 3) (mc := 0) (ms := 0) rfl m_X9_cartanOf (cr_X9_306 (X := X_X9_cartan) (fr := 4) (frc := 1) (pc := 19) (mc := 0) (ms := 0) rfl (by decide) dX9_cartan_19) ?_
      refine sm_goto (pc := 22) (tgt := 26) dX9_cartan_22 (by decide) ?_
      exact hj26
noncomputable def f_X9_cartan {d : Nat} : List zV → zH d → zP d → Bool := zfn 3 b_X9_cartan
theorem m_X9_cartan {d : Nat} : zMet (d := d) X_X9_cartan yX9_cartan 4 f_X9_cartan := zmet_mk (X := X_X9_cartan) (by decide) rfl rfl s_X9_cartan

abbrev X_X9_tableau : zM := (RX9, cX9_tableau, 5, (some .int), "tableau")
noncomputable def bX9_tableau_71 {d : Nat} (P : zP d) : zK d := (xpI 4294967295 (xiret P))
set_option maxRecDepth 100000 in
set_option maxHeartbeats 4000000 in
theorem sbX9_tableau_71 {d : Nat} [zGh] (P : zP d) : zSim X_X9_tableau 3 P 71 (bX9_tableau_71 P) := by
  unfold bX9_tableau_71
  refine sm_iconst (pc := 71) dX9_tableau_71 zc_i_m1 ?_
  exact sm_ireturn (pc := 72) dX9_tableau_72 rfl
noncomputable def cX9_tableau_91 {d : Nat} (P : zP d) : zK d := (xbin zadd (xbin zmul (xald 0 (xild 3 (xild 4 (xcV 25 3 0 0 f_X9_cellAt (xbin zadd (xald1 0 (xiret P)))))))))
set_option maxRecDepth 100000 in
set_option maxHeartbeats 4000000 in
theorem scX9_tableau_91 {d : Nat} [zGh] (P : zP d) : zSim X_X9_tableau 3 P 91 (cX9_tableau_91 P) := by
  unfold cX9_tableau_91
  refine sm_iadd (pc := 91) dX9_tableau_91 ?_
  refine sm_imul (pc := 92) dX9_tableau_92 ?_
  refine sm_aload_n (pc := 93) (n := 0) dX9_tableau_93 rfl ?_
  refine sm_iload_n (pc := 94) (n := 3) dX9_tableau_94 rfl ?_
  refine sm_iload (pc := 95) (n := 4) dX9_tableau_95 ?_
  refine sm_cV (pc := 97) (ci := 9) (n := 3) (mc := 0) (ms := 0) rfl m_X9_cellAt (cr_X9_214 (X := X_X9_tableau) (fr := 3) (frc := 2) (pc := 97) (mc := 0) (ms := 0) rfl (by decide) dX9_tableau_97) ?_
  refine sm_iadd (pc := 100) dX9_tableau_100 ?_
  refine sm_iaload (pc := 101) dX9_tableau_101 ?_
  exact sm_ireturn (pc := 102) dX9_tableau_102 rfl
noncomputable def cX9_tableau_49 {d : Nat} (P : zP d) (j71 : zK d) : zK d := (xif0 t0eq j71 (xild 4 (xi2l (xpL 0 (xald 0 (xild 1 (xild 3 (xcV 25 3 0 0 f_X9_partOf (xpI 1 (xbin zsub (xi2l (xcS 3 0 0 f_X9_isIn (xif0 t0eq j71 (xald 0 (xild 1 (xpfI 25 25 (xald 0 (xgfR 25 22 (xpI 6 (xald 0 (xgfR 25 20 (xild 1 (xald1 0 (xild 2 (cX9_tableau_91 P)))))))))))))))))))))))))
set_option maxRecDepth 100000 in
set_option maxHeartbeats 4000000 in
theorem scX9_tableau_49 {d : Nat} [zGh] (P : zP d) (j71 : zK d) (hj71 : zSim X_X9_tableau 3 P 71 j71) : zSim X_X9_tableau 3 P 49 (cX9_tableau_49 P j71) := by
  unfold cX9_tableau_49
  refine sm_if_eq (pc := 49) (tgt := 71) dX9_tableau_49 (by decide) ?_ ?_
  · skip
    exact hj71
  · skip
    refine sm_iload (pc := 52) (n := 4) dX9_tableau_52 ?_
    refine sm_i2l (pc := 54) dX9_tableau_54 ?_
    refine sm_lconst (pc := 55) dX9_tableau_55 zc_l_0 ?_
    refine sm_aload_n (pc := 56) (n := 0) dX9_tableau_56 rfl ?_
    refine sm_iload_n (pc := 57) (n := 1) dX9_tableau_57 rfl ?_
    refine sm_iload_n (pc := 58) (n := 3) dX9_tableau_58 rfl ?_
    refine sm_cV (pc := 59) (ci := 9) (n := 3) (mc := 0) (ms := 0) rfl m_X9_partOf (cr_X9_175 (X := X_X9_tableau) (fr := 3) (frc := 1) (pc := 59) (mc := 0) (ms := 0) rfl (by decide) dX9_tableau_59) ?_
    refine sm_iconst (pc := 62) dX9_tableau_62 zc_i_1 ?_
    refine sm_isub (pc := 63) dX9_tableau_63 ?_
    refine sm_i2l (pc := 64) dX9_tableau_64 ?_
    refine sm_cS (pc := 65) (n := 3) (mc := 0) (ms := 0) m_X9_isIn (cr_X9_283 (X := X_X9_tableau) (fr := 3) (frc := 1) (pc := 65) (mc := 0) (ms := 0) rfl (by decide) dX9_tableau_65) ?_
    refine sm_if_ne (pc := 68) (tgt := 73) dX9_tableau_68 (by decide) ?_ ?_
    · skip
      refine sm_aload_n (pc := 73) (n := 0) dX9_tableau_73 rfl ?_
      refine sm_iload_n (pc := 74) (n := 1) dX9_tableau_74 rfl ?_
      refine pf_X9_205 (pc := 75) rfl dX9_tableau_75 ?_
      refine sm_aload_n (pc := 78) (n := 0) dX9_tableau_78 rfl ?_
      refine gf_X9_59 (pc := 79) rfl dX9_tableau_79 ?_
      refine sm_bipush (pc := 82) dX9_tableau_82 zc_b_6 ?_
      refine sm_aload_n (pc := 84) (n := 0) dX9_tableau_84 rfl ?_
      refine gf_X9_53 (pc := 85) rfl dX9_tableau_85 ?_
      refine sm_iload_n (pc := 88) (n := 1) dX9_tableau_88 rfl ?_
      refine sm_iaload (pc := 89) dX9_tableau_89 ?_
      refine sm_iload_n (pc := 90) (n := 2) dX9_tableau_90 rfl ?_
      exact scX9_tableau_91 P
    · skip
      exact hj71
noncomputable def b_X9_tableau {d : Nat} (P : zP d) : zK d := (xald 0 (xild 1 (xcV 25 2 0 0 f_X9_isPart (xif0 t0eq (xpI 4294967295 (xiret P)) (xild 3 (xpI 4294967295 (xcmp Nat.beq (xald 0 (xgfR 25 21 (xild 1 (xald1 0 (xiret P))))) (xild 2 (xi2l (xpL 0 (xald 0 (xgfR 25 21 (xild 1 (xald1 0 (xpI 1 (xbin zsub (xi2l (xcS 3 0 0 f_X9_isIn (xjoin (bX9_tableau_71 P) (fun j71 => (xif0 t0eq j71 (xild 3 (xi2l (xpL 0 (xpL 5 (xcS 3 0 0 f_X9_isIn (cX9_tableau_49 P j71)))))))))))))))))))))))))))
set_option maxRecDepth 100000 in
set_option maxHeartbeats 4000000 in
theorem s_X9_tableau {d : Nat} [zGh] (P : zP d) : zSim X_X9_tableau 3 P 0 (b_X9_tableau P) := by
  unfold b_X9_tableau
  refine sm_aload_n (pc := 0) (n := 0) dX9_tableau_0 rfl ?_
  refine sm_iload_n (pc := 1) (n := 1) dX9_tableau_1 rfl ?_
  refine sm_cV (pc := 2) (ci := 9) (n := 2) (mc := 0) (ms := 0) rfl m_X9_isPart (cr_X9_287 (X := X_X9_tableau) (fr := 3) (frc := 2) (pc := 2) (mc := 0) (ms := 0) rfl (by decide) dX9_tableau_2) ?_
  refine sm_if_ne (pc := 5) (tgt := 10) dX9_tableau_5 (by decide) ?_ ?_
  · skip
    refine sm_iload_n (pc := 10) (n := 3) dX9_tableau_10 rfl ?_
    refine sm_iconst (pc := 11) dX9_tableau_11 zc_i_m1 ?_
    refine sm_icmp_ne (pc := 12) (tgt := 22) dX9_tableau_12 (by decide) ?_ ?_
    · skip
      refine sm_iload_n (pc := 22) (n := 2) dX9_tableau_22 rfl ?_
      refine sm_i2l (pc := 23) dX9_tableau_23 ?_
      refine sm_lconst (pc := 24) dX9_tableau_24 zc_l_0 ?_
      refine sm_aload_n (pc := 25) (n := 0) dX9_tableau_25 rfl ?_
      refine gf_X9_56 (pc := 26) rfl dX9_tableau_26 ?_
      refine sm_iload_n (pc := 29) (n := 1) dX9_tableau_29 rfl ?_
      refine sm_iaload (pc := 30) dX9_tableau_30 ?_
      refine sm_iconst (pc := 31) dX9_tableau_31 zc_i_1 ?_
      refine sm_isub (pc := 32) dX9_tableau_32 ?_
      refine sm_i2l (pc := 33) dX9_tableau_33 ?_
      refine sm_cS (pc := 34) (n := 3) (mc := 0) (ms := 0) m_X9_isIn (cr_X9_283 (X := X_X9_tableau) (fr := 3) (frc := 1) (pc := 34) (mc := 0) (ms := 0) rfl (by decide) dX9_tableau_34) ?_
      refine sm_join (pc := 37) (pc' := 71) (sbX9_tableau_71 P) (fun j71 hj71 => ?_)
      refine sm_if_eq (pc := 37) (tgt := 71) dX9_tableau_37 (by decide) ?_ ?_
      · skip
        exact hj71
      · skip
        refine sm_iload_n (pc := 40) (n := 3) dX9_tableau_40 rfl ?_
        refine sm_i2l (pc := 41) dX9_tableau_41 ?_
        refine sm_lconst (pc := 42) dX9_tableau_42 zc_l_0 ?_
        refine sm_ldc2 (pc := 43) dX9_tableau_43 wd_1247 zc_cl_5 ?_
        refine sm_cS (pc := 46) (n := 3) (mc := 0) (ms := 0) m_X9_isIn (cr_X9_283 (X := X_X9_tableau) (fr := 3) (frc := 1) (pc := 46) (mc := 0) (ms := 0) rfl (by decide) dX9_tableau_46) ?_
        exact scX9_tableau_49 P j71 hj71
    · skip
      refine sm_aload_n (pc := 15) (n := 0) dX9_tableau_15 rfl ?_
      refine gf_X9_56 (pc := 16) rfl dX9_tableau_16 ?_
      refine sm_iload_n (pc := 19) (n := 1) dX9_tableau_19 rfl ?_
      refine sm_iaload (pc := 20) dX9_tableau_20 ?_
      exact sm_ireturn (pc := 21) dX9_tableau_21 rfl
  · skip
    refine sm_iconst (pc := 8) dX9_tableau_8 zc_i_m1 ?_
    exact sm_ireturn (pc := 9) dX9_tableau_9 rfl
noncomputable def f_X9_tableau {d : Nat} : List zV → zH d → zP d → Bool := zfn 5 b_X9_tableau
theorem m_X9_tableau {d : Nat} : zMet (d := d) X_X9_tableau yX9_tableau 3 f_X9_tableau := zmet_mk (X := X_X9_tableau) (by decide) rfl rfl s_X9_tableau

abbrev X_X9_gram : zM := (RX9, cX9_gram, 4, (some .int), "gram")
noncomputable def bX9_gram_67 {d : Nat} (P : zP d) : zK d := (xiret P)
set_option maxRecDepth 100000 in
set_option maxHeartbeats 4000000 in
theorem sbX9_gram_67 {d : Nat} [zGh] (P : zP d) : zSim X_X9_gram 3 P 67 (bX9_gram_67 P) := by
  unfold bX9_gram_67
  exact sm_ireturn (pc := 67) dX9_gram_67 rfl
noncomputable def bX9_gram_64 {d : Nat} (P : zP d) (j67 : zK d) : zK d := (xpI 4294966295 j67)
set_option maxRecDepth 100000 in
set_option maxHeartbeats 4000000 in
theorem sbX9_gram_64 {d : Nat} [zGh] (P : zP d) (j67 : zK d) (hj67 : zSim X_X9_gram 3 P 67 j67) : zSim X_X9_gram 3 P 64 (bX9_gram_64 P j67) := by
  unfold bX9_gram_64
  refine sm_sipush (pc := 64) dX9_gram_64 zc_s_m1001 ?_
  exact hj67
noncomputable def cX9_gram_36 {d : Nat} (P : zP d) (j64 : zK d) (j67 : zK d) : zK d := (xbin zsub (xi2l (xcS 3 0 0 f_X9_isIn (xif0 t0eq j64 (xald 0 (xgfR 25 35 (xpI 256 (xild 1 (xbin zmul (xpI 16 (xild 2 (xbin zmul (xbin zadd (xild 3 (xbin zadd (xald1 0 j67))))))))))))))))
set_option maxRecDepth 100000 in
set_option maxHeartbeats 4000000 in
theorem scX9_gram_36 {d : Nat} [zGh] (P : zP d) (j64 : zK d) (j67 : zK d) (hj64 : zSim X_X9_gram 3 P 64 j64) (hj67 : zSim X_X9_gram 3 P 67 j67) : zSim X_X9_gram 3 P 36 (cX9_gram_36 P j64 j67) := by
  unfold cX9_gram_36
  refine sm_isub (pc := 36) dX9_gram_36 ?_
  refine sm_i2l (pc := 37) dX9_gram_37 ?_
  refine sm_cS (pc := 38) (n := 3) (mc := 0) (ms := 0) m_X9_isIn (cr_X9_283 (X := X_X9_gram) (fr := 3) (frc := 1) (pc := 38) (mc := 0) (ms := 0) rfl (by decide) dX9_gram_38) ?_
  refine sm_if_eq (pc := 41) (tgt := 64) dX9_gram_41 (by decide) ?_ ?_
  · skip
    exact hj64
  · skip
    refine sm_aload_n (pc := 44) (n := 0) dX9_gram_44 rfl ?_
    refine gf_X9_90 (pc := 45) rfl dX9_gram_45 ?_
    refine sm_sipush (pc := 48) dX9_gram_48 zc_s_256 ?_
    refine sm_iload_n (pc := 51) (n := 1) dX9_gram_51 rfl ?_
    refine sm_imul (pc := 52) dX9_gram_52 ?_
    refine sm_bipush (pc := 53) dX9_gram_53 zc_b_16 ?_
    refine sm_iload_n (pc := 55) (n := 2) dX9_gram_55 rfl ?_
    refine sm_imul (pc := 56) dX9_gram_56 ?_
    refine sm_iadd (pc := 57) dX9_gram_57 ?_
    refine sm_iload_n (pc := 58) (n := 3) dX9_gram_58 rfl ?_
    refine sm_iadd (pc := 59) dX9_gram_59 ?_
    refine sm_iaload (pc := 60) dX9_gram_60 ?_
    refine sm_goto (pc := 61) (tgt := 67) dX9_gram_61 (by decide) ?_
    exact hj67
noncomputable def b_X9_gram {d : Nat} (P : zP d) : zK d := (xald 0 (xild 1 (xcV 25 2 0 0 f_X9_isPart (xjoin (bX9_gram_67 P) (fun j67 => (xjoin (bX9_gram_64 P j67) (fun j64 => (xif0 t0eq j64 (xild 2 (xi2l (xpL 0 (xald 0 (xgfR 25 21 (xild 1 (xald1 0 (xpI 1 (xbin zsub (xi2l (xcS 3 0 0 f_X9_isIn (xif0 t0eq j64 (xild 3 (xi2l (xpL 0 (xald 0 (xgfR 25 21 (xild 1 (xald1 0 (xpI 1 (cX9_gram_36 P j64 j67)))))))))))))))))))))))))))))
set_option maxRecDepth 100000 in
set_option maxHeartbeats 4000000 in
theorem s_X9_gram {d : Nat} [zGh] (P : zP d) : zSim X_X9_gram 3 P 0 (b_X9_gram P) := by
  unfold b_X9_gram
  refine sm_aload_n (pc := 0) (n := 0) dX9_gram_0 rfl ?_
  refine sm_iload_n (pc := 1) (n := 1) dX9_gram_1 rfl ?_
  refine sm_cV (pc := 2) (ci := 9) (n := 2) (mc := 0) (ms := 0) rfl m_X9_isPart (cr_X9_287 (X := X_X9_gram) (fr := 3) (frc := 2) (pc := 2) (mc := 0) (ms := 0) rfl (by decide) dX9_gram_2) ?_
  refine sm_join (pc := 5) (pc' := 67) (sbX9_gram_67 P) (fun j67 hj67 => ?_)
  refine sm_join (pc := 5) (pc' := 64) (sbX9_gram_64 P j67 hj67) (fun j64 hj64 => ?_)
  refine sm_if_eq (pc := 5) (tgt := 64) dX9_gram_5 (by decide) ?_ ?_
  · skip
    exact hj64
  · skip
    refine sm_iload_n (pc := 8) (n := 2) dX9_gram_8 rfl ?_
    refine sm_i2l (pc := 9) dX9_gram_9 ?_
    refine sm_lconst (pc := 10) dX9_gram_10 zc_l_0 ?_
    refine sm_aload_n (pc := 11) (n := 0) dX9_gram_11 rfl ?_
    refine gf_X9_56 (pc := 12) rfl dX9_gram_12 ?_
    refine sm_iload_n (pc := 15) (n := 1) dX9_gram_15 rfl ?_
    refine sm_iaload (pc := 16) dX9_gram_16 ?_
    refine sm_iconst (pc := 17) dX9_gram_17 zc_i_1 ?_
    refine sm_isub (pc := 18) dX9_gram_18 ?_
    refine sm_i2l (pc := 19) dX9_gram_19 ?_
    refine sm_cS (pc := 20) (n := 3) (mc := 0) (ms := 0) m_X9_isIn (cr_X9_283 (X := X_X9_gram) (fr := 3) (frc := 1) (pc := 20) (mc := 0) (ms := 0) rfl (by decide) dX9_gram_20) ?_
    refine sm_if_eq (pc := 23) (tgt := 64) dX9_gram_23 (by decide) ?_ ?_
    · skip
      exact hj64
    · skip
      refine sm_iload_n (pc := 26) (n := 3) dX9_gram_26 rfl ?_
      refine sm_i2l (pc := 27) dX9_gram_27 ?_
      refine sm_lconst (pc := 28) dX9_gram_28 zc_l_0 ?_
      refine sm_aload_n (pc := 29) (n := 0) dX9_gram_29 rfl ?_
      refine gf_X9_56 (pc := 30) rfl dX9_gram_30 ?_
      refine sm_iload_n (pc := 33) (n := 1) dX9_gram_33 rfl ?_
      refine sm_iaload (pc := 34) dX9_gram_34 ?_
      refine sm_iconst (pc := 35) dX9_gram_35 zc_i_1 ?_
      exact scX9_gram_36 P j64 j67 hj64 hj67
noncomputable def f_X9_gram {d : Nat} : List zV → zH d → zP d → Bool := zfn 4 b_X9_gram
theorem m_X9_gram {d : Nat} : zMet (d := d) X_X9_gram yX9_gram 3 f_X9_gram := zmet_mk (X := X_X9_gram) (by decide) rfl rfl s_X9_gram
