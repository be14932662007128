section
/-! the reference, by program -/
abbrev X_X9_isPart : zM := (RX9, cX9_isPart, 2, (some .boolean), "isPart")
noncomputable def b_X9_isPart {d : Nat} (P : zP d) : zK d := (xild 1 (xi2l (xpL 0 (xald 0 (xgfI 25 2 (xpI 1 (xbin zsub (xi2l (xcS 3 0 0 f_X9_isIn (xzret P))))))))))
set_option maxRecDepth 100000 in
set_option maxHeartbeats 4000000 in
theorem s_X9_isPart {d : Nat} [zGh] (P : zP d) : zSim X_X9_isPart 2 P 0 (b_X9_isPart P) := by
  unfold b_X9_isPart
  refine sm_iload_n (pc := 0) (n := 1) dX9_isPart_0 rfl ?_
  refine sm_i2l (pc := 1) dX9_isPart_1 ?_
  refine sm_lconst (pc := 2) dX9_isPart_2 zc_l_0 ?_
  refine sm_aload_n (pc := 3) (n := 0) dX9_isPart_3 rfl ?_
  refine gf_X9_153 (pc := 4) rfl dX9_isPart_4 ?_
  refine sm_iconst (pc := 7) dX9_isPart_7 zc_i_1 ?_
  refine sm_isub (pc := 8) dX9_isPart_8 ?_
  refine sm_i2l (pc := 9) dX9_isPart_9 ?_
  refine sm_cS (pc := 10) (n := 3) (mc := 0) (ms := 0) m_X9_isIn (cr_X9_283 (X := X_X9_isPart) (fr := 2) (frc := 1) (pc := 10) (mc := 0) (ms := 0) rfl (by decide) dX9_isPart_10) ?_
  exact sm_zreturn (pc := 13) dX9_isPart_13 rfl
noncomputable def f_X9_isPart {d : Nat} : List zV → zH d → zP d → Bool := zfn 2 b_X9_isPart
theorem m_X9_isPart {d : Nat} : zMet (d := d) X_X9_isPart yX9_isPart 2 f_X9_isPart := zmet_mk (X := X_X9_isPart) (by decide) rfl rfl s_X9_isPart

abbrev X_X9_partition : zM := (RX9, cX9_partition, 3, (some .int), "partition")
noncomputable def bX9_partition_13 {d : Nat} (P : zP d) : zK d := (xpI 4294967295 (xiret P))
set_option maxRecDepth 100000 in
set_option maxHeartbeats 4000000 in
theorem sbX9_partition_13 {d : Nat} [zGh] (P : zP d) : zSim X_X9_partition 3 P 13 (bX9_partition_13 P) := by
  unfold bX9_partition_13
  refine sm_iconst (pc := 13) dX9_partition_13 zc_i_m1 ?_
  exact sm_ireturn (pc := 14) dX9_partition_14 rfl
noncomputable def bX9_partition_35 {d : Nat} (P : zP d) : zK d := (xiret P)
set_option maxRecDepth 100000 in
set_option maxHeartbeats 4000000 in
theorem sbX9_partition_35 {d : Nat} [zGh] (P : zP d) : zSim X_X9_partition 3 P 35 (bX9_partition_35 P) := by
  unfold bX9_partition_35
  exact sm_ireturn (pc := 35) dX9_partition_35 rfl
noncomputable def b_X9_partition {d : Nat} (P : zP d) : zK d := (xald 0 (xild 1 (xcV 25 2 0 0 f_X9_isPart (xjoin (bX9_partition_13 P) (fun j13 => (xif0 t0eq j13 (xild 2 (xpI 4294967295 (xcmp tge (xild 2 (xpI 4294967295 (xjoin (bX9_partition_35 P) (fun j35 => (xcmp Nat.beq (xald 0 (xgfR 25 4 (xild 1 (xald1 0 j35)))) (xald 0 (xild 1 (xild 2 (xcV 25 3 0 0 f_X9_partOf j35))))))))) j13)))))))))
set_option maxRecDepth 100000 in
set_option maxHeartbeats 4000000 in
theorem s_X9_partition {d : Nat} [zGh] (P : zP d) : zSim X_X9_partition 3 P 0 (b_X9_partition P) := by
  unfold b_X9_partition
  refine sm_aload_n (pc := 0) (n := 0) dX9_partition_0 rfl ?_
  refine sm_iload_n (pc := 1) (n := 1) dX9_partition_1 rfl ?_
  refine sm_cV (pc := 2) (ci := 9) (n := 2) (mc := 0) (ms := 0) rfl m_X9_isPart (cr_X9_287 (X := X_X9_partition) (fr := 3) (frc := 2) (pc := 2) (mc := 0) (ms := 0) rfl (by decide) dX9_partition_2) ?_
  refine sm_join (pc := 5) (pc' := 13) (sbX9_partition_13 P) (fun j13 hj13 => ?_)
  refine sm_if_eq (pc := 5) (tgt := 13) dX9_partition_5 (by decide) ?_ ?_
  · skip
    exact hj13
  · skip
    refine sm_iload_n (pc := 8) (n := 2) dX9_partition_8 rfl ?_
    refine sm_iconst (pc := 9) dX9_partition_9 zc_i_m1 ?_
    refine sm_icmp_ge (pc := 10) (tgt := 15) dX9_partition_10 (by decide) ?_ ?_
    · skip
      refine sm_iload_n (pc := 15) (n := 2) dX9_partition_15 rfl ?_
      refine sm_iconst (pc := 16) dX9_partition_16 zc_i_m1 ?_
      refine sm_join (pc := 17) (pc' := 35) (sbX9_partition_35 P) (fun j35 hj35 => ?_)
      refine sm_icmp_ne (pc := 17) (tgt := 29) dX9_partition_17 (by decide) ?_ ?_
      · skip
        refine sm_aload_n (pc := 29) (n := 0) dX9_partition_29 rfl ?_
        refine sm_iload_n (pc := 30) (n := 1) dX9_partition_30 rfl ?_
        refine sm_iload_n (pc := 31) (n := 2) dX9_partition_31 rfl ?_
        refine sm_cV (pc := 32) (ci := 9) (n := 3) (mc := 0) (ms := 0) rfl m_X9_partOf (cr_X9_175 (X := X_X9_partition) (fr := 3) (frc := 1) (pc := 32) (mc := 0) (ms := 0) rfl (by decide) dX9_partition_32) ?_
        exact hj35
      · skip
        refine sm_aload_n (pc := 20) (n := 0) dX9_partition_20 rfl ?_
        refine gf_X9_13 (pc := 21) rfl dX9_partition_21 ?_
        refine sm_iload_n (pc := 24) (n := 1) dX9_partition_24 rfl ?_
        refine sm_iaload (pc := 25) dX9_partition_25 ?_
        refine sm_goto (pc := 26) (tgt := 35) dX9_partition_26 (by decide) ?_
        exact hj35
    · skip
      exact hj13
noncomputable def f_X9_partition {d : Nat} : List zV → zH d → zP d → Bool := zfn 3 b_X9_partition
theorem m_X9_partition {d : Nat} : zMet (d := d) X_X9_partition yX9_partition 3 f_X9_partition := zmet_mk (X := X_X9_partition) (by decide) rfl rfl s_X9_partition

abbrev X_X9_isTurned : zM := (RX9, cX9_isTurned, 6, (some .boolean), "isTurned")
noncomputable def bX9_isTurned_39 {d : Nat} (P : zP d) (r14 : zK d) : zK d := (xcS 1 0 0 f_X9_one (xbin zadd (xist 4 (xinc 5 1 r14))))
set_option maxRecDepth 100000 in
set_option maxHeartbeats 4000000 in
theorem sbX9_isTurned_39 {d : Nat} [zGh] (P : zP d) (r14 : zK d) (hr14 : zSim X_X9_isTurned 2 P 14 r14) : zSim X_X9_isTurned 2 P 39 (bX9_isTurned_39 P r14) := by
  unfold bX9_isTurned_39
  refine sm_cS (pc := 39) (n := 1) (mc := 0) (ms := 0) m_X9_one (cr_X9_187 (X := X_X9_isTurned) (fr := 2) (frc := 1) (pc := 39) (mc := 0) (ms := 0) rfl (by decide) dX9_isTurned_39) ?_
  refine sm_iadd (pc := 42) dX9_isTurned_42 ?_
  refine sm_istore (pc := 43) (n := 4) dX9_isTurned_43 ?_
  refine sm_iinc (pc := 45) (n := 5) dX9_isTurned_45 zc_i_1 ?_
  refine sm_goto (pc := 48) (tgt := 14) dX9_isTurned_48 (by decide) ?_
  exact hr14
noncomputable def lX9_isTurned_14 {d : Nat} (P : zP d) (r14 : zK d) (r2 : zK d) : zK d := (xild 5 (xpI 6 (xcmp tge (xald 0 (xild 2 (xild 3 (xcV 25 3 0 0 f_X9_partOf (xild 4 (xcmp Nat.beq (xinc 3 1 r2) (xpI 0 (xzret P)))))))) (xild 4 (xald 0 (xild 1 (xild 5 (xcV 25 3 0 0 f_X9_partOf (xild 3 (xjoin (bX9_isTurned_39 P r14) (fun j39 => (xcmp tle (xpI 0 j39) (xpI 1 j39)))))))))))))
set_option maxRecDepth 100000 in
set_option maxHeartbeats 4000000 in
theorem slX9_isTurned_14 {d : Nat} [zGh] (P : zP d) (r14 : zK d) (r2 : zK d) (hr14 : zSim X_X9_isTurned 2 P 14 r14) (hr2 : zSim X_X9_isTurned 2 P 2 r2) : zSim X_X9_isTurned 2 P 14 (lX9_isTurned_14 P r14 r2) := by
  unfold lX9_isTurned_14
  refine sm_iload (pc := 14) (n := 5) dX9_isTurned_14 ?_
  refine sm_bipush (pc := 16) dX9_isTurned_16 zc_b_6 ?_
  refine sm_icmp_ge (pc := 18) (tgt := 51) dX9_isTurned_18 (by decide) ?_ ?_
  · skip
    refine sm_aload_n (pc := 51) (n := 0) dX9_isTurned_51 rfl ?_
    refine sm_iload_n (pc := 52) (n := 2) dX9_isTurned_52 rfl ?_
    refine sm_iload_n (pc := 53) (n := 3) dX9_isTurned_53 rfl ?_
    refine sm_cV (pc := 54) (ci := 9) (n := 3) (mc := 0) (ms := 0) rfl m_X9_partOf (cr_X9_175 (X := X_X9_isTurned) (fr := 2) (frc := 1) (pc := 54) (mc := 0) (ms := 0) rfl (by decide) dX9_isTurned_54) ?_
    refine sm_iload (pc := 57) (n := 4) dX9_isTurned_57 ?_
    refine sm_icmp_eq (pc := 59) (tgt := 64) dX9_isTurned_59 (by decide) ?_ ?_
    · skip
      refine sm_iinc (pc := 64) (n := 3) dX9_isTurned_64 zc_i_1 ?_
      refine sm_goto (pc := 67) (tgt := 2) dX9_isTurned_67 (by decide) ?_
      exact hr2
    · skip
      refine sm_iconst (pc := 62) dX9_isTurned_62 zc_i_0 ?_
      exact sm_zreturn (pc := 63) dX9_isTurned_63 rfl
  · skip
    refine sm_iload (pc := 21) (n := 4) dX9_isTurned_21 ?_
    refine sm_aload_n (pc := 23) (n := 0) dX9_isTurned_23 rfl ?_
    refine sm_iload_n (pc := 24) (n := 1) dX9_isTurned_24 rfl ?_
    refine sm_iload (pc := 25) (n := 5) dX9_isTurned_25 ?_
    refine sm_cV (pc := 27) (ci := 9) (n := 3) (mc := 0) (ms := 0) rfl m_X9_partOf (cr_X9_175 (X := X_X9_isTurned) (fr := 2) (frc := 1) (pc := 27) (mc := 0) (ms := 0) rfl (by decide) dX9_isTurned_27) ?_
    refine sm_iload_n (pc := 30) (n := 3) dX9_isTurned_30 rfl ?_
    refine sm_join (pc := 31) (pc' := 39) (sbX9_isTurned_39 P r14 hr14) (fun j39 hj39 => ?_)
    refine sm_icmp_le (pc := 31) (tgt := 38) dX9_isTurned_31 (by decide) ?_ ?_
    · skip
      refine sm_iconst (pc := 38) dX9_isTurned_38 zc_i_0 ?_
      exact hj39
    · skip
      refine sm_iconst (pc := 34) dX9_isTurned_34 zc_i_1 ?_
      refine sm_goto (pc := 35) (tgt := 39) dX9_isTurned_35 (by decide) ?_
      exact hj39
noncomputable def lX9_isTurned_2 {d : Nat} (P : zP d) (r2 : zK d) : zK d := (xild 3 (xpI 6 (xcmp tge (xpI 1 (xzret P)) (xpI 0 (xist 4 (xpI 0 (xist 5 (xloop (fun r14 => (lX9_isTurned_14 P r14 r2)) 100000))))))))
set_option maxRecDepth 100000 in
set_option maxHeartbeats 4000000 in
theorem slX9_isTurned_2 {d : Nat} [zGh] (P : zP d) (r2 : zK d) (hr2 : zSim X_X9_isTurned 2 P 2 r2) : zSim X_X9_isTurned 2 P 2 (lX9_isTurned_2 P r2) := by
  unfold lX9_isTurned_2
  refine sm_iload_n (pc := 2) (n := 3) dX9_isTurned_2 rfl ?_
  refine sm_bipush (pc := 3) dX9_isTurned_3 zc_b_6 ?_
  refine sm_icmp_ge (pc := 5) (tgt := 70) dX9_isTurned_5 (by decide) ?_ ?_
  · skip
    refine sm_iconst (pc := 70) dX9_isTurned_70 zc_i_1 ?_
    exact sm_zreturn (pc := 71) dX9_isTurned_71 rfl
  · skip
    refine sm_iconst (pc := 8) dX9_isTurned_8 zc_i_0 ?_
    refine sm_istore (pc := 9) (n := 4) dX9_isTurned_9 ?_
    refine sm_iconst (pc := 11) dX9_isTurned_11 zc_i_0 ?_
    refine sm_istore (pc := 12) (n := 5) dX9_isTurned_12 ?_
    exact sm_loop (fun r14 hr14 => slX9_isTurned_14 P r14 r2 hr14 hr2) _
noncomputable def b_X9_isTurned {d : Nat} (P : zP d) : zK d := (xpI 0 (xist 3 (xloop (fun r2 => (lX9_isTurned_2 P r2)) 100000)))
set_option maxRecDepth 100000 in
set_option maxHeartbeats 4000000 in
theorem s_X9_isTurned {d : Nat} [zGh] (P : zP d) : zSim X_X9_isTurned 2 P 0 (b_X9_isTurned P) := by
  unfold b_X9_isTurned
  refine sm_iconst (pc := 0) dX9_isTurned_0 zc_i_0 ?_
  refine sm_istore_n (pc := 1) (n := 3) dX9_isTurned_1 rfl ?_
  exact sm_loop (fun r2 hr2 => slX9_isTurned_2 P r2 hr2) _
noncomputable def f_X9_isTurned {d : Nat} : List zV → zH d → zP d → Bool := zfn 6 b_X9_isTurned
theorem m_X9_isTurned {d : Nat} : zMet (d := d) X_X9_isTurned yX9_isTurned 2 f_X9_isTurned := zmet_mk (X := X_X9_isTurned) (by decide) rfl rfl s_X9_isTurned

abbrev X_X9_turned : zM := (RX9, cX9_turned, 3, (some .int), "turned")
noncomputable def lX9_turned_2 {d : Nat} (P : zP d) (r2 : zK d) : zK d := (xald 0 (xild 1 (xild 2 (xcV 25 3 0 0 f_X9_isTurned (xif0 t0eq (xinc 2 1 r2) (xild 2 (xiret P)))))))
set_option maxRecDepth 100000 in
set_option maxHeartbeats 4000000 in
theorem slX9_turned_2 {d : Nat} [zGh] (P : zP d) (r2 : zK d) (hr2 : zSim X_X9_turned 3 P 2 r2) : zSim X_X9_turned 3 P 2 (lX9_turned_2 P r2) := by
  unfold lX9_turned_2
  refine sm_aload_n (pc := 2) (n := 0) dX9_turned_2 rfl ?_
  refine sm_iload_n (pc := 3) (n := 1) dX9_turned_3 rfl ?_
  refine sm_iload_n (pc := 4) (n := 2) dX9_turned_4 rfl ?_
  refine sm_cV (pc := 5) (ci := 9) (n := 3) (mc := 0) (ms := 0) rfl m_X9_isTurned (cr_X9_291 (X := X_X9_turned) (fr := 3) (frc := 2) (pc := 5) (mc := 0) (ms := 0) rfl (by decide) dX9_turned_5) ?_
  refine sm_if_ne (pc := 8) (tgt := 17) dX9_turned_8 (by decide) ?_ ?_
  · skip
    refine sm_iload_n (pc := 17) (n := 2) dX9_turned_17 rfl ?_
    exact sm_ireturn (pc := 18) dX9_turned_18 rfl
  · skip
    refine sm_iinc (pc := 11) (n := 2) dX9_turned_11 zc_i_1 ?_
    refine sm_goto (pc := 14) (tgt := 2) dX9_turned_14 (by decide) ?_
    exact hr2
noncomputable def b_X9_turned {d : Nat} (P : zP d) : zK d := (xpI 0 (xist 2 (xloop (fun r2 => (lX9_turned_2 P r2)) 100000)))
set_option maxRecDepth 100000 in
set_option maxHeartbeats 4000000 in
theorem s_X9_turned {d : Nat} [zGh] (P : zP d) : zSim X_X9_turned 3 P 0 (b_X9_turned P) := by
  unfold b_X9_turned
  refine sm_iconst (pc := 0) dX9_turned_0 zc_i_0 ?_
  refine sm_istore_n (pc := 1) (n := 2) dX9_turned_1 rfl ?_
  exact sm_loop (fun r2 hr2 => slX9_turned_2 P r2 hr2) _
noncomputable def f_X9_turned {d : Nat} : List zV → zH d → zP d → Bool := zfn 3 b_X9_turned
theorem m_X9_turned {d : Nat} : zMet (d := d) X_X9_turned yX9_turned 3 f_X9_turned := zmet_mk (X := X_X9_turned) (by decide) rfl rfl s_X9_turned

abbrev X_X9_of : zM := (RX9, cX9_of, 3, (some .int), "of")
noncomputable def bX9_of_125 {d : Nat} (P : zP d) : zK d := (xpI 4294967295 (xiret P))
set_option maxRecDepth 100000 in
set_option maxHeartbeats 4000000 in
theorem sbX9_of_125 {d : Nat} [zGh] (P : zP d) : zSim X_X9_of 4 P 125 (bX9_of_125 P) := by
  unfold bX9_of_125
  refine sm_iconst (pc := 125) dX9_of_125 zc_i_m1 ?_
  exact sm_ireturn (pc := 126) dX9_of_126 rfl
noncomputable def bX9_of_56 {d : Nat} (P : zP d) : zK d := (xald 0 (xgfR 25 7 (xild 1 (xald1 1 (xcS 1 0 0 f_X9_one (xiret P))))))
set_option maxRecDepth 100000 in
set_option maxHeartbeats 4000000 in
theorem sbX9_of_56 {d : Nat} [zGh] (P : zP d) : zSim X_X9_of 4 P 56 (bX9_of_56 P) := by
  unfold bX9_of_56
  refine sm_aload_n (pc := 56) (n := 0) dX9_of_56 rfl ?_
  refine gf_X9_22 (pc := 57) rfl dX9_of_57 ?_
  refine sm_iload_n (pc := 60) (n := 1) dX9_of_60 rfl ?_
  refine sm_baload (pc := 61) dX9_of_61 ?_
  refine sm_cS (pc := 62) (n := 1) (mc := 0) (ms := 0) m_X9_one (cr_X9_187 (X := X_X9_of) (fr := 4) (frc := 1) (pc := 62) (mc := 0) (ms := 0) rfl (by decide) dX9_of_62) ?_
  exact sm_ireturn (pc := 65) dX9_of_65 rfl
noncomputable def bX9_of_66 {d : Nat} (P : zP d) : zK d := (xald 0 (xgfR 25 15 (xild 1 (xald1 0 (xiret P)))))
set_option maxRecDepth 100000 in
set_option maxHeartbeats 4000000 in
theorem sbX9_of_66 {d : Nat} [zGh] (P : zP d) : zSim X_X9_of 4 P 66 (bX9_of_66 P) := by
  unfold bX9_of_66
  refine sm_aload_n (pc := 66) (n := 0) dX9_of_66 rfl ?_
  refine gf_X9_41 (pc := 67) rfl dX9_of_67 ?_
  refine sm_iload_n (pc := 70) (n := 1) dX9_of_70 rfl ?_
  refine sm_iaload (pc := 71) dX9_of_71 ?_
  exact sm_ireturn (pc := 72) dX9_of_72 rfl
noncomputable def bX9_of_73 {d : Nat} (P : zP d) : zK d := (xald 0 (xgfR 25 17 (xild 1 (xald1 0 (xiret P)))))
set_option maxRecDepth 100000 in
set_option maxHeartbeats 4000000 in
theorem sbX9_of_73 {d : Nat} [zGh] (P : zP d) : zSim X_X9_of 4 P 73 (bX9_of_73 P) := by
  unfold bX9_of_73
  refine sm_aload_n (pc := 73) (n := 0) dX9_of_73 rfl ?_
  refine gf_X9_47 (pc := 74) rfl dX9_of_74 ?_
  refine sm_iload_n (pc := 77) (n := 1) dX9_of_77 rfl ?_
  refine sm_iaload (pc := 78) dX9_of_78 ?_
  exact sm_ireturn (pc := 79) dX9_of_79 rfl
noncomputable def bX9_of_80 {d : Nat} (P : zP d) : zK d := (xald 0 (xgfR 25 21 (xild 1 (xald1 0 (xiret P)))))
set_option maxRecDepth 100000 in
set_option maxHeartbeats 4000000 in
theorem sbX9_of_80 {d : Nat} [zGh] (P : zP d) : zSim X_X9_of 4 P 80 (bX9_of_80 P) := by
  unfold bX9_of_80
  refine sm_aload_n (pc := 80) (n := 0) dX9_of_80 rfl ?_
  refine gf_X9_56 (pc := 81) rfl dX9_of_81 ?_
  refine sm_iload_n (pc := 84) (n := 1) dX9_of_84 rfl ?_
  refine sm_iaload (pc := 85) dX9_of_85 ?_
  exact sm_ireturn (pc := 86) dX9_of_86 rfl
noncomputable def bX9_of_87 {d : Nat} (P : zP d) : zK d := (xald 0 (xgfR 25 36 (xild 1 (xald1 0 (xiret P)))))
set_option maxRecDepth 100000 in
set_option maxHeartbeats 4000000 in
theorem sbX9_of_87 {d : Nat} [zGh] (P : zP d) : zSim X_X9_of 4 P 87 (bX9_of_87 P) := by
  unfold bX9_of_87
  refine sm_aload_n (pc := 87) (n := 0) dX9_of_87 rfl ?_
  refine gf_X9_93 (pc := 88) rfl dX9_of_88 ?_
  refine sm_iload_n (pc := 91) (n := 1) dX9_of_91 rfl ?_
  refine sm_iaload (pc := 92) dX9_of_92 ?_
  exact sm_ireturn (pc := 93) dX9_of_93 rfl
noncomputable def bX9_of_94 {d : Nat} (P : zP d) : zK d := (xald 0 (xild 1 (xcV 25 2 0 0 f_X9_turned (xiret P))))
set_option maxRecDepth 100000 in
set_option maxHeartbeats 4000000 in
theorem sbX9_of_94 {d : Nat} [zGh] (P : zP d) : zSim X_X9_of 4 P 94 (bX9_of_94 P) := by
  unfold bX9_of_94
  refine sm_aload_n (pc := 94) (n := 0) dX9_of_94 rfl ?_
  refine sm_iload_n (pc := 95) (n := 1) dX9_of_95 rfl ?_
  refine sm_cV (pc := 96) (ci := 9) (n := 2) (mc := 0) (ms := 0) rfl m_X9_turned (cr_X9_295 (X := X_X9_of) (fr := 4) (frc := 3) (pc := 96) (mc := 0) (ms := 0) rfl (by decide) dX9_of_96) ?_
  exact sm_ireturn (pc := 99) dX9_of_99 rfl
noncomputable def bX9_of_114 {d : Nat} (P : zP d) : zK d := (xcS 1 0 0 f_X9_one (xiret P))
set_option maxRecDepth 100000 in
set_option maxHeartbeats 4000000 in
theorem sbX9_of_114 {d : Nat} [zGh] (P : zP d) : zSim X_X9_of 4 P 114 (bX9_of_114 P) := by
  unfold bX9_of_114
  refine sm_cS (pc := 114) (n := 1) (mc := 0) (ms := 0) m_X9_one (cr_X9_187 (X := X_X9_of) (fr := 4) (frc := 1) (pc := 114) (mc := 0) (ms := 0) rfl (by decide) dX9_of_114) ?_
  exact sm_ireturn (pc := 117) dX9_of_117 rfl
noncomputable def bX9_of_100 {d : Nat} (P : zP d) : zK d := (xald 0 (xild 1 (xcV 25 2 0 0 f_X9_turned (xild 1 (xjoin (bX9_of_114 P) (fun j114 => (xcmp Nat.beq (xpI 1 j114) (xpI 0 j114))))))))
set_option maxRecDepth 100000 in
set_option maxHeartbeats 4000000 in
theorem sbX9_of_100 {d : Nat} [zGh] (P : zP d) : zSim X_X9_of 4 P 100 (bX9_of_100 P) := by
  unfold bX9_of_100
  refine sm_aload_n (pc := 100) (n := 0) dX9_of_100 rfl ?_
  refine sm_iload_n (pc := 101) (n := 1) dX9_of_101 rfl ?_
  refine sm_cV (pc := 102) (ci := 9) (n := 2) (mc := 0) (ms := 0) rfl m_X9_turned (cr_X9_295 (X := X_X9_of) (fr := 4) (frc := 3) (pc := 102) (mc := 0) (ms := 0) rfl (by decide) dX9_of_102) ?_
  refine sm_iload_n (pc := 105) (n := 1) dX9_of_105 rfl ?_
  refine sm_join (pc := 106) (pc' := 114) (sbX9_of_114 P) (fun j114 hj114 => ?_)
  refine sm_icmp_ne (pc := 106) (tgt := 113) dX9_of_106 (by decide) ?_ ?_
  · skip
    refine sm_iconst (pc := 113) dX9_of_113 zc_i_0 ?_
    exact hj114
  · skip
    refine sm_iconst (pc := 109) dX9_of_109 zc_i_1 ?_
    refine sm_goto (pc := 110) (tgt := 114) dX9_of_110 (by decide) ?_
    exact hj114
noncomputable def bX9_of_118 {d : Nat} (P : zP d) : zK d := (xald 0 (xgfR 25 10 (xild 1 (xald1 0 (xiret P)))))
set_option maxRecDepth 100000 in
set_option maxHeartbeats 4000000 in
theorem sbX9_of_118 {d : Nat} [zGh] (P : zP d) : zSim X_X9_of 4 P 118 (bX9_of_118 P) := by
  unfold bX9_of_118
  refine sm_aload_n (pc := 118) (n := 0) dX9_of_118 rfl ?_
  refine gf_X9_32 (pc := 119) rfl dX9_of_119 ?_
  refine sm_iload_n (pc := 122) (n := 1) dX9_of_122 rfl ?_
  refine sm_iaload (pc := 123) dX9_of_123 ?_
  exact sm_ireturn (pc := 124) dX9_of_124 rfl
noncomputable def b_X9_of {d : Nat} (P : zP d) : zK d := (xald 0 (xild 1 (xcV 25 2 0 0 f_X9_isPart (xif0 t0eq (xpI 4294967295 (xiret P)) (xild 2 (xtsw [(bX9_of_56 P), (bX9_of_66 P), (bX9_of_73 P), (bX9_of_80 P), (bX9_of_87 P), (bX9_of_94 P), (bX9_of_100 P), (bX9_of_118 P)] (bX9_of_125 P)))))))
set_option maxRecDepth 100000 in
set_option maxHeartbeats 4000000 in
theorem s_X9_of {d : Nat} [zGh] (P : zP d) : zSim X_X9_of 4 P 0 (b_X9_of P) := by
  unfold b_X9_of
  refine sm_aload_n (pc := 0) (n := 0) dX9_of_0 rfl ?_
  refine sm_iload_n (pc := 1) (n := 1) dX9_of_1 rfl ?_
  refine sm_cV (pc := 2) (ci := 9) (n := 2) (mc := 0) (ms := 0) rfl m_X9_isPart (cr_X9_287 (X := X_X9_of) (fr := 4) (frc := 2) (pc := 2) (mc := 0) (ms := 0) rfl (by decide) dX9_of_2) ?_
  refine sm_if_ne (pc := 5) (tgt := 10) dX9_of_5 (by decide) ?_ ?_
  · skip
    refine sm_iload_n (pc := 10) (n := 2) dX9_of_10 rfl ?_
    refine sm_tsw2 (pc := 11) (n := 7) (tdf := 125) [56, 66, 73, 80, 87, 94, 100, 118] rfl (by decide) dX9_of_11 rfl (by decide +kernel) (by decide) (sbX9_of_125 P) (fun i k t hk ht => ?_)
    match i, hk, ht with
    | 0, hk, ht => cases hk; cases ht; exact sbX9_of_56 P
    | 1, hk, ht => cases hk; cases ht; exact sbX9_of_66 P
    | 2, hk, ht => cases hk; cases ht; exact sbX9_of_73 P
    | 3, hk, ht => cases hk; cases ht; exact sbX9_of_80 P
    | 4, hk, ht => cases hk; cases ht; exact sbX9_of_87 P
    | 5, hk, ht => cases hk; cases ht; exact sbX9_of_94 P
    | 6, hk, ht => cases hk; cases ht; exact sbX9_of_100 P
    | 7, hk, ht => cases hk; cases ht; exact sbX9_of_118 P
    | i + 8, hk, ht => cases hk
  · skip
    refine sm_iconst (pc := 8) dX9_of_8 zc_i_m1 ?_
    exact sm_ireturn (pc := 9) dX9_of_9 rfl
noncomputable def f_X9_of {d : Nat} : List zV → zH d → zP d → Bool := zfn 3 b_X9_of
theorem m_X9_of {d : Nat} : zMet (d := d) X_X9_of yX9_of 4 f_X9_of := zmet_mk (X := X_X9_of) (by decide) rfl rfl s_X9_of

abbrev X_X9_partBy : zM := (RX9, cX9_partBy, 4, (some .int), "partBy")
noncomputable def bX9_partBy_33 {d : Nat} (P : zP d) (r5 : zK d) : zK d := (xinc 3 4294967295 r5)
set_option maxRecDepth 100000 in
set_option maxHeartbeats 4000000 in
theorem sbX9_partBy_33 {d : Nat} [zGh] (P : zP d) (r5 : zK d) (hr5 : zSim X_X9_partBy 1 P 5 r5) : zSim X_X9_partBy 1 P 33 (bX9_partBy_33 P r5) := by
  unfold bX9_partBy_33
  refine sm_iinc (pc := 33) (n := 3) dX9_partBy_33 zc_i_m1 ?_
  refine sm_goto (pc := 36) (tgt := 5) dX9_partBy_36 (by decide) ?_
  exact hr5
noncomputable def lX9_partBy_5 {d : Nat} (P : zP d) (r5 : zK d) : zK d := (xild 3 (xif0 t0ge (xild 0 (xild 3 (xbin zshr (xpI 1 (xbin zand (xjoin (bX9_partBy_33 P r5) (fun j33 => (xif0 t0eq j33 (xild 2 (xif0 t0eq (xild 3 (xpI 5 (xild 1 (xbin zsub (xbin zsub (xiret P)))))) (xinc 2 4294967295 j33))))))))))) (xpI 0 (xiret P))))
set_option maxRecDepth 100000 in
set_option maxHeartbeats 4000000 in
theorem slX9_partBy_5 {d : Nat} [zGh] (P : zP d) (r5 : zK d) (hr5 : zSim X_X9_partBy 1 P 5 r5) : zSim X_X9_partBy 1 P 5 (lX9_partBy_5 P r5) := by
  unfold lX9_partBy_5
  refine sm_iload_n (pc := 5) (n := 3) dX9_partBy_5 rfl ?_
  refine sm_if_lt (pc := 6) (tgt := 39) dX9_partBy_6 (by decide) ?_ ?_
  · skip
    refine sm_iconst (pc := 39) dX9_partBy_39 zc_i_0 ?_
    exact sm_ireturn (pc := 40) dX9_partBy_40 rfl
  · skip
    refine sm_iload_n (pc := 9) (n := 0) dX9_partBy_9 rfl ?_
    refine sm_iload_n (pc := 10) (n := 3) dX9_partBy_10 rfl ?_
    refine sm_ishr (pc := 11) dX9_partBy_11 ?_
    refine sm_iconst (pc := 12) dX9_partBy_12 zc_i_1 ?_
    refine sm_iand (pc := 13) dX9_partBy_13 ?_
    refine sm_join (pc := 14) (pc' := 33) (sbX9_partBy_33 P r5 hr5) (fun j33 hj33 => ?_)
    refine sm_if_ne (pc := 14) (tgt := 20) dX9_partBy_14 (by decide) ?_ ?_
    · skip
      refine sm_iload_n (pc := 20) (n := 2) dX9_partBy_20 rfl ?_
      refine sm_if_ne (pc := 21) (tgt := 30) dX9_partBy_21 (by decide) ?_ ?_
      · skip
        refine sm_iinc (pc := 30) (n := 2) dX9_partBy_30 zc_i_m1 ?_
        exact hj33
      · skip
        refine sm_iload_n (pc := 24) (n := 3) dX9_partBy_24 rfl ?_
        refine sm_iconst (pc := 25) dX9_partBy_25 zc_i_5 ?_
        refine sm_iload_n (pc := 26) (n := 1) dX9_partBy_26 rfl ?_
        refine sm_isub (pc := 27) dX9_partBy_27 ?_
        refine sm_isub (pc := 28) dX9_partBy_28 ?_
        exact sm_ireturn (pc := 29) dX9_partBy_29 rfl
    · skip
      refine sm_goto (pc := 17) (tgt := 33) dX9_partBy_17 (by decide) ?_
      exact hj33
noncomputable def b_X9_partBy {d : Nat} (P : zP d) : zK d := (xild 1 (xist 2 (xpI 11 (xist 3 (xloop (fun r5 => (lX9_partBy_5 P r5)) 100000)))))
set_option maxRecDepth 100000 in
set_option maxHeartbeats 4000000 in
theorem s_X9_partBy {d : Nat} [zGh] (P : zP d) : zSim X_X9_partBy 1 P 0 (b_X9_partBy P) := by
  unfold b_X9_partBy
  refine sm_iload_n (pc := 0) (n := 1) dX9_partBy_0 rfl ?_
  refine sm_istore_n (pc := 1) (n := 2) dX9_partBy_1 rfl ?_
  refine sm_bipush (pc := 2) dX9_partBy_2 zc_b_11 ?_
  refine sm_istore_n (pc := 4) (n := 3) dX9_partBy_4 rfl ?_
  exact sm_loop (fun r5 hr5 => slX9_partBy_5 P r5 hr5) _
noncomputable def f_X9_partBy {d : Nat} : List zV → zH d → zP d → Bool := zfn 4 b_X9_partBy
theorem m_X9_partBy {d : Nat} : zMet (d := d) X_X9_partBy yX9_partBy 1 f_X9_partBy := zmet_mk (X := X_X9_partBy) (by decide) rfl rfl s_X9_partBy

abbrev X_X9_core : zM := (RX9, cX9_core, 3, (some .int), "core")
noncomputable def bX9_core_13 {d : Nat} (P : zP d) : zK d := (xpI 4294967295 (xiret P))
set_option maxRecDepth 100000 in
set_option maxHeartbeats 4000000 in
theorem sbX9_core_13 {d : Nat} [zGh] (P : zP d) : zSim X_X9_core 3 P 13 (bX9_core_13 P) := by
  unfold bX9_core_13
  refine sm_iconst (pc := 13) dX9_core_13 zc_i_m1 ?_
  exact sm_ireturn (pc := 14) dX9_core_14 rfl
noncomputable def bX9_core_57 {d : Nat} (P : zP d) : zK d := (xiret P)
set_option maxRecDepth 100000 in
set_option maxHeartbeats 4000000 in
theorem sbX9_core_57 {d : Nat} [zGh] (P : zP d) : zSim X_X9_core 3 P 57 (bX9_core_57 P) := by
  unfold bX9_core_57
  exact sm_ireturn (pc := 57) dX9_core_57 rfl
noncomputable def b_X9_core {d : Nat} (P : zP d) : zK d := (xald 0 (xild 1 (xcV 25 2 0 0 f_X9_isPart (xjoin (bX9_core_13 P) (fun j13 => (xif0 t0eq j13 (xild 2 (xpI 4294967295 (xcmp tge (xild 2 (xpI 4294967295 (xcmp Nat.beq (xald 0 (xgfI 25 0 (xald 0 (xgfI 25 1 (xald 0 (xgfR 25 15 (xild 1 (xald1 0 (xbin zmul (xbin zsub (xiret P))))))))))) (xild 2 (xpI 6 (xjoin (bX9_core_57 P) (fun j57 => (xcmp tge (xpI 0 j57) (xald 0 (xgfR 25 16 (xild 1 (xald1 0 (xild 2 (xcS 2 0 0 f_X9_partBy j57)))))))))))))) j13)))))))))
set_option maxRecDepth 100000 in
set_option maxHeartbeats 4000000 in
theorem s_X9_core {d : Nat} [zGh] (P : zP d) : zSim X_X9_core 3 P 0 (b_X9_core P) := by
  unfold b_X9_core
  refine sm_aload_n (pc := 0) (n := 0) dX9_core_0 rfl ?_
  refine sm_iload_n (pc := 1) (n := 1) dX9_core_1 rfl ?_
  refine sm_cV (pc := 2) (ci := 9) (n := 2) (mc := 0) (ms := 0) rfl m_X9_isPart (cr_X9_287 (X := X_X9_core) (fr := 3) (frc := 2) (pc := 2) (mc := 0) (ms := 0) rfl (by decide) dX9_core_2) ?_
  refine sm_join (pc := 5) (pc' := 13) (sbX9_core_13 P) (fun j13 hj13 => ?_)
  refine sm_if_eq (pc := 5) (tgt := 13) dX9_core_5 (by decide) ?_ ?_
  · skip
    exact hj13
  · skip
    refine sm_iload_n (pc := 8) (n := 2) dX9_core_8 rfl ?_
    refine sm_iconst (pc := 9) dX9_core_9 zc_i_m1 ?_
    refine sm_icmp_ge (pc := 10) (tgt := 15) dX9_core_10 (by decide) ?_ ?_
    · skip
      refine sm_iload_n (pc := 15) (n := 2) dX9_core_15 rfl ?_
      refine sm_iconst (pc := 16) dX9_core_16 zc_i_m1 ?_
      refine sm_icmp_ne (pc := 17) (tgt := 37) dX9_core_17 (by decide) ?_ ?_
      · skip
        refine sm_iload_n (pc := 37) (n := 2) dX9_core_37 rfl ?_
        refine sm_bipush (pc := 38) dX9_core_38 zc_b_6 ?_
        refine sm_join (pc := 40) (pc' := 57) (sbX9_core_57 P) (fun j57 hj57 => ?_)
        refine sm_icmp_ge (pc := 40) (tgt := 56) dX9_core_40 (by decide) ?_ ?_
        · skip
          refine sm_iconst (pc := 56) dX9_core_56 zc_i_0 ?_
          exact hj57
        · skip
          refine sm_aload_n (pc := 43) (n := 0) dX9_core_43 rfl ?_
          refine gf_X9_44 (pc := 44) rfl dX9_core_44 ?_
          refine sm_iload_n (pc := 47) (n := 1) dX9_core_47 rfl ?_
          refine sm_iaload (pc := 48) dX9_core_48 ?_
          refine sm_iload_n (pc := 49) (n := 2) dX9_core_49 rfl ?_
          refine sm_cS (pc := 50) (n := 2) (mc := 0) (ms := 0) m_X9_partBy (cr_X9_298 (X := X_X9_core) (fr := 3) (frc := 1) (pc := 50) (mc := 0) (ms := 0) rfl (by decide) dX9_core_50) ?_
          refine sm_goto (pc := 53) (tgt := 57) dX9_core_53 (by decide) ?_
          exact hj57
      · skip
        refine sm_aload_n (pc := 20) (n := 0) dX9_core_20 rfl ?_
        refine gf_X9_169 (pc := 21) rfl dX9_core_21 ?_
        refine sm_aload_n (pc := 24) (n := 0) dX9_core_24 rfl ?_
        refine gf_X9_184 (pc := 25) rfl dX9_core_25 ?_
        refine sm_aload_n (pc := 28) (n := 0) dX9_core_28 rfl ?_
        refine gf_X9_41 (pc := 29) rfl dX9_core_29 ?_
        refine sm_iload_n (pc := 32) (n := 1) dX9_core_32 rfl ?_
        refine sm_iaload (pc := 33) dX9_core_33 ?_
        refine sm_imul (pc := 34) dX9_core_34 ?_
        refine sm_isub (pc := 35) dX9_core_35 ?_
        exact sm_ireturn (pc := 36) dX9_core_36 rfl
    · skip
      exact hj13
noncomputable def f_X9_core {d : Nat} : List zV → zH d → zP d → Bool := zfn 3 b_X9_core
theorem m_X9_core {d : Nat} : zMet (d := d) X_X9_core yX9_core 3 f_X9_core := zmet_mk (X := X_X9_core) (by decide) rfl rfl s_X9_core

abbrev X_X9_hook : zM := (RX9, cX9_hook, 6, (some .int), "hook")
noncomputable def bX9_hook_38 {d : Nat} (P : zP d) : zK d := (xpI 4294967295 (xiret P))
set_option maxRecDepth 100000 in
set_option maxHeartbeats 4000000 in
theorem sbX9_hook_38 {d : Nat} [zGh] (P : zP d) : zSim X_X9_hook 3 P 38 (bX9_hook_38 P) := by
  unfold bX9_hook_38
  refine sm_iconst (pc := 38) dX9_hook_38 zc_i_m1 ?_
  exact sm_ireturn (pc := 39) dX9_hook_39 rfl
noncomputable def bX9_hook_80 {d : Nat} (P : zP d) (r55 : zK d) : zK d := (xcS 1 0 0 f_X9_one (xbin zadd (xist 4 (xinc 5 1 r55))))
set_option maxRecDepth 100000 in
set_option maxHeartbeats 4000000 in
theorem sbX9_hook_80 {d : Nat} [zGh] (P : zP d) (r55 : zK d) (hr55 : zSim X_X9_hook 3 P 55 r55) : zSim X_X9_hook 3 P 80 (bX9_hook_80 P r55) := by
  unfold bX9_hook_80
  refine sm_cS (pc := 80) (n := 1) (mc := 0) (ms := 0) m_X9_one (cr_X9_187 (X := X_X9_hook) (fr := 3) (frc := 1) (pc := 80) (mc := 0) (ms := 0) rfl (by decide) dX9_hook_80) ?_
  refine sm_iadd (pc := 83) dX9_hook_83 ?_
  refine sm_istore (pc := 84) (n := 4) dX9_hook_84 ?_
  refine sm_iinc (pc := 86) (n := 5) dX9_hook_86 zc_i_1 ?_
  refine sm_goto (pc := 89) (tgt := 55) dX9_hook_89 (by decide) ?_
  exact hr55
noncomputable def lX9_hook_55 {d : Nat} (P : zP d) (r55 : zK d) : zK d := (xild 5 (xpI 6 (xcmp tge (xild 4 (xiret P)) (xild 4 (xald 0 (xild 1 (xild 5 (xcV 25 3 0 0 f_X9_partOf (xild 3 (xjoin (bX9_hook_80 P r55) (fun j80 => (xcmp tle (xpI 0 j80) (xpI 1 j80)))))))))))))
set_option maxRecDepth 100000 in
set_option maxHeartbeats 4000000 in
theorem slX9_hook_55 {d : Nat} [zGh] (P : zP d) (r55 : zK d) (hr55 : zSim X_X9_hook 3 P 55 r55) : zSim X_X9_hook 3 P 55 (lX9_hook_55 P r55) := by
  unfold lX9_hook_55
  refine sm_iload (pc := 55) (n := 5) dX9_hook_55 ?_
  refine sm_bipush (pc := 57) dX9_hook_57 zc_b_6 ?_
  refine sm_icmp_ge (pc := 59) (tgt := 92) dX9_hook_59 (by decide) ?_ ?_
  · skip
    refine sm_iload (pc := 92) (n := 4) dX9_hook_92 ?_
    exact sm_ireturn (pc := 94) dX9_hook_94 rfl
  · skip
    refine sm_iload (pc := 62) (n := 4) dX9_hook_62 ?_
    refine sm_aload_n (pc := 64) (n := 0) dX9_hook_64 rfl ?_
    refine sm_iload_n (pc := 65) (n := 1) dX9_hook_65 rfl ?_
    refine sm_iload (pc := 66) (n := 5) dX9_hook_66 ?_
    refine sm_cV (pc := 68) (ci := 9) (n := 3) (mc := 0) (ms := 0) rfl m_X9_partOf (cr_X9_175 (X := X_X9_hook) (fr := 3) (frc := 1) (pc := 68) (mc := 0) (ms := 0) rfl (by decide) dX9_hook_68) ?_
    refine sm_iload_n (pc := 71) (n := 3) dX9_hook_71 rfl ?_
    refine sm_join (pc := 72) (pc' := 80) (sbX9_hook_80 P r55 hr55) (fun j80 hj80 => ?_)
    refine sm_icmp_le (pc := 72) (tgt := 79) dX9_hook_72 (by decide) ?_ ?_
    · skip
      refine sm_iconst (pc := 79) dX9_hook_79 zc_i_0 ?_
      exact hj80
    · skip
      refine sm_iconst (pc := 75) dX9_hook_75 zc_i_1 ?_
      refine sm_goto (pc := 76) (tgt := 80) dX9_hook_76 (by decide) ?_
      exact hj80
noncomputable def cX9_hook_42 {d : Nat} (P : zP d) : zK d := (xild 2 (xcV 25 3 0 0 f_X9_partOf (xild 3 (xbin zsub (xist 4 (xild 2 (xpI 1 (xbin zadd (xist 5 (xloop (fun r55 => (lX9_hook_55 P r55)) 100000))))))))))
set_option maxRecDepth 100000 in
set_option maxHeartbeats 4000000 in
theorem scX9_hook_42 {d : Nat} [zGh] (P : zP d) : zSim X_X9_hook 3 P 42 (cX9_hook_42 P) := by
  unfold cX9_hook_42
  refine sm_iload_n (pc := 42) (n := 2) dX9_hook_42 rfl ?_
  refine sm_cV (pc := 43) (ci := 9) (n := 3) (mc := 0) (ms := 0) rfl m_X9_partOf (cr_X9_175 (X := X_X9_hook) (fr := 3) (frc := 1) (pc := 43) (mc := 0) (ms := 0) rfl (by decide) dX9_hook_43) ?_
  refine sm_iload_n (pc := 46) (n := 3) dX9_hook_46 rfl ?_
  refine sm_isub (pc := 47) dX9_hook_47 ?_
  refine sm_istore (pc := 48) (n := 4) dX9_hook_48 ?_
  refine sm_iload_n (pc := 50) (n := 2) dX9_hook_50 rfl ?_
  refine sm_iconst (pc := 51) dX9_hook_51 zc_i_1 ?_
  refine sm_iadd (pc := 52) dX9_hook_52 ?_
  refine sm_istore (pc := 53) (n := 5) dX9_hook_53 ?_
  exact sm_loop (fun r55 hr55 => slX9_hook_55 P r55 hr55) _
noncomputable def b_X9_hook {d : Nat} (P : zP d) : zK d := (xald 0 (xild 1 (xcV 25 2 0 0 f_X9_isPart (xjoin (bX9_hook_38 P) (fun j38 => (xif0 t0eq j38 (xild 2 (xi2l (xpL 0 (xpL 5 (xcS 3 0 0 f_X9_isIn (xif0 t0eq j38 (xild 3 (xi2l (xpL 0 (xald 0 (xild 1 (xild 2 (xcV 25 3 0 0 f_X9_partOf (xpI 1 (xbin zsub (xi2l (xcS 3 0 0 f_X9_isIn (xif0 t0eq j38 (xald 0 (xild 1 (cX9_hook_42 P)))))))))))))))))))))))))))
set_option maxRecDepth 100000 in
set_option maxHeartbeats 4000000 in
theorem s_X9_hook {d : Nat} [zGh] (P : zP d) : zSim X_X9_hook 3 P 0 (b_X9_hook P) := by
  unfold b_X9_hook
  refine sm_aload_n (pc := 0) (n := 0) dX9_hook_0 rfl ?_
  refine sm_iload_n (pc := 1) (n := 1) dX9_hook_1 rfl ?_
  refine sm_cV (pc := 2) (ci := 9) (n := 2) (mc := 0) (ms := 0) rfl m_X9_isPart (cr_X9_287 (X := X_X9_hook) (fr := 3) (frc := 2) (pc := 2) (mc := 0) (ms := 0) rfl (by decide) dX9_hook_2) ?_
  refine sm_join (pc := 5) (pc' := 38) (sbX9_hook_38 P) (fun j38 hj38 => ?_)
  refine sm_if_eq (pc := 5) (tgt := 38) dX9_hook_5 (by decide) ?_ ?_
  · skip
    exact hj38
  · skip
    refine sm_iload_n (pc := 8) (n := 2) dX9_hook_8 rfl ?_
    refine sm_i2l (pc := 9) dX9_hook_9 ?_
    refine sm_lconst (pc := 10) dX9_hook_10 zc_l_0 ?_
    refine sm_ldc2 (pc := 11) dX9_hook_11 wd_1247 zc_cl_5 ?_
    refine sm_cS (pc := 14) (n := 3) (mc := 0) (ms := 0) m_X9_isIn (cr_X9_283 (X := X_X9_hook) (fr := 3) (frc := 1) (pc := 14) (mc := 0) (ms := 0) rfl (by decide) dX9_hook_14) ?_
    refine sm_if_eq (pc := 17) (tgt := 38) dX9_hook_17 (by decide) ?_ ?_
    · skip
      exact hj38
    · skip
      refine sm_iload_n (pc := 20) (n := 3) dX9_hook_20 rfl ?_
      refine sm_i2l (pc := 21) dX9_hook_21 ?_
      refine sm_lconst (pc := 22) dX9_hook_22 zc_l_0 ?_
      refine sm_aload_n (pc := 23) (n := 0) dX9_hook_23 rfl ?_
      refine sm_iload_n (pc := 24) (n := 1) dX9_hook_24 rfl ?_
      refine sm_iload_n (pc := 25) (n := 2) dX9_hook_25 rfl ?_
      refine sm_cV (pc := 26) (ci := 9) (n := 3) (mc := 0) (ms := 0) rfl m_X9_partOf (cr_X9_175 (X := X_X9_hook) (fr := 3) (frc := 1) (pc := 26) (mc := 0) (ms := 0) rfl (by decide) dX9_hook_26) ?_
      refine sm_iconst (pc := 29) dX9_hook_29 zc_i_1 ?_
      refine sm_isub (pc := 30) dX9_hook_30 ?_
      refine sm_i2l (pc := 31) dX9_hook_31 ?_
      refine sm_cS (pc := 32) (n := 3) (mc := 0) (ms := 0) m_X9_isIn (cr_X9_283 (X := X_X9_hook) (fr := 3) (frc := 1) (pc := 32) (mc := 0) (ms := 0) rfl (by decide) dX9_hook_32) ?_
      refine sm_if_ne (pc := 35) (tgt := 40) dX9_hook_35 (by decide) ?_ ?_
      · skip
        refine sm_aload_n (pc := 40) (n := 0) dX9_hook_40 rfl ?_
        refine sm_iload_n (pc := 41) (n := 1) dX9_hook_41 rfl ?_
        exact scX9_hook_42 P
      · skip
        exact hj38
noncomputable def f_X9_hook {d : Nat} : List zV → zH d → zP d → Bool := zfn 6 b_X9_hook
theorem m_X9_hook {d : Nat} : zMet (d := d) X_X9_hook yX9_hook 3 f_X9_hook := zmet_mk (X := X_X9_hook) (by decide) rfl rfl s_X9_hook

abbrev X_X9_classOf : zM := (RX9, cX9_classOf, 3, (some .int), "classOf")
noncomputable def bX9_classOf_91 {d : Nat} (P : zP d) : zK d := (xpI 4294967294 (xiret P))
set_option maxRecDepth 100000 in
set_option maxHeartbeats 4000000 in
theorem sbX9_classOf_91 {d : Nat} [zGh] (P : zP d) : zSim X_X9_classOf 3 P 91 (bX9_classOf_91 P) := by
  unfold bX9_classOf_91
  refine sm_bipush (pc := 91) dX9_classOf_91 zc_b_m2 ?_
  exact sm_ireturn (pc := 93) dX9_classOf_93 rfl
noncomputable def bX9_classOf_48 {d : Nat} (P : zP d) : zK d := (xald 0 (xgfR 25 5 (xild 1 (xald1 0 (xiret P)))))
set_option maxRecDepth 100000 in
set_option maxHeartbeats 4000000 in
theorem sbX9_classOf_48 {d : Nat} [zGh] (P : zP d) : zSim X_X9_classOf 3 P 48 (bX9_classOf_48 P) := by
  unfold bX9_classOf_48
  refine sm_aload_n (pc := 48) (n := 0) dX9_classOf_48 rfl ?_
  refine gf_X9_16 (pc := 49) rfl dX9_classOf_49 ?_
  refine sm_iload_n (pc := 52) (n := 1) dX9_classOf_52 rfl ?_
  refine sm_iaload (pc := 53) dX9_classOf_53 ?_
  exact sm_ireturn (pc := 54) dX9_classOf_54 rfl
noncomputable def bX9_classOf_55 {d : Nat} (P : zP d) : zK d := (xald 0 (xgfR 25 6 (xild 1 (xald1 0 (xiret P)))))
set_option maxRecDepth 100000 in
set_option maxHeartbeats 4000000 in
theorem sbX9_classOf_55 {d : Nat} [zGh] (P : zP d) : zSim X_X9_classOf 3 P 55 (bX9_classOf_55 P) := by
  unfold bX9_classOf_55
  refine sm_aload_n (pc := 55) (n := 0) dX9_classOf_55 rfl ?_
  refine gf_X9_19 (pc := 56) rfl dX9_classOf_56 ?_
  refine sm_iload_n (pc := 59) (n := 1) dX9_classOf_59 rfl ?_
  refine sm_iaload (pc := 60) dX9_classOf_60 ?_
  exact sm_ireturn (pc := 61) dX9_classOf_61 rfl
noncomputable def bX9_classOf_62 {d : Nat} (P : zP d) : zK d := (xald 0 (xgfR 25 8 (xild 1 (xald1 1 (xcS 1 0 0 f_X9_one (xiret P))))))
set_option maxRecDepth 100000 in
set_option maxHeartbeats 4000000 in
theorem sbX9_classOf_62 {d : Nat} [zGh] (P : zP d) : zSim X_X9_classOf 3 P 62 (bX9_classOf_62 P) := by
  unfold bX9_classOf_62
  refine sm_aload_n (pc := 62) (n := 0) dX9_classOf_62 rfl ?_
  refine gf_X9_26 (pc := 63) rfl dX9_classOf_63 ?_
  refine sm_iload_n (pc := 66) (n := 1) dX9_classOf_66 rfl ?_
  refine sm_baload (pc := 67) dX9_classOf_67 ?_
  refine sm_cS (pc := 68) (n := 1) (mc := 0) (ms := 0) m_X9_one (cr_X9_187 (X := X_X9_classOf) (fr := 3) (frc := 1) (pc := 68) (mc := 0) (ms := 0) rfl (by decide) dX9_classOf_68) ?_
  exact sm_ireturn (pc := 71) dX9_classOf_71 rfl
noncomputable def bX9_classOf_72 {d : Nat} (P : zP d) : zK d := (xald 0 (xgfR 25 9 (xild 1 (xald1 0 (xiret P)))))
set_option maxRecDepth 100000 in
set_option maxHeartbeats 4000000 in
theorem sbX9_classOf_72 {d : Nat} [zGh] (P : zP d) : zSim X_X9_classOf 3 P 72 (bX9_classOf_72 P) := by
  unfold bX9_classOf_72
  refine sm_aload_n (pc := 72) (n := 0) dX9_classOf_72 rfl ?_
  refine gf_X9_29 (pc := 73) rfl dX9_classOf_73 ?_
  refine sm_iload_n (pc := 76) (n := 1) dX9_classOf_76 rfl ?_
  refine sm_iaload (pc := 77) dX9_classOf_77 ?_
  exact sm_ireturn (pc := 78) dX9_classOf_78 rfl
noncomputable def bX9_classOf_79 {d : Nat} (P : zP d) : zK d := (xald 0 (xgfI 25 12 (xald 0 (xgfR 25 5 (xild 1 (xald1 0 (xbinN zdiv (xiret P))))))))
set_option maxRecDepth 100000 in
set_option maxHeartbeats 4000000 in
theorem sbX9_classOf_79 {d : Nat} [zGh] (P : zP d) : zSim X_X9_classOf 3 P 79 (bX9_classOf_79 P) := by
  unfold bX9_classOf_79
  refine sm_aload_n (pc := 79) (n := 0) dX9_classOf_79 rfl ?_
  refine gf_X9_166 (pc := 80) rfl dX9_classOf_80 ?_
  refine sm_aload_n (pc := 83) (n := 0) dX9_classOf_83 rfl ?_
  refine gf_X9_16 (pc := 84) rfl dX9_classOf_84 ?_
  refine sm_iload_n (pc := 87) (n := 1) dX9_classOf_87 rfl ?_
  refine sm_iaload (pc := 88) dX9_classOf_88 ?_
  refine sm_idiv (pc := 89) dX9_classOf_89 ?_
  exact sm_ireturn (pc := 90) dX9_classOf_90 rfl
noncomputable def b_X9_classOf {d : Nat} (P : zP d) : zK d := (xald 0 (xild 1 (xcV 25 2 0 0 f_X9_isPart (xif0 t0eq (xpI 4294967294 (xiret P)) (xild 2 (xtsw [(bX9_classOf_48 P), (bX9_classOf_55 P), (bX9_classOf_62 P), (bX9_classOf_72 P), (bX9_classOf_79 P)] (bX9_classOf_91 P)))))))
set_option maxRecDepth 100000 in
set_option maxHeartbeats 4000000 in
theorem s_X9_classOf {d : Nat} [zGh] (P : zP d) : zSim X_X9_classOf 3 P 0 (b_X9_classOf P) := by
  unfold b_X9_classOf
  refine sm_aload_n (pc := 0) (n := 0) dX9_classOf_0 rfl ?_
  refine sm_iload_n (pc := 1) (n := 1) dX9_classOf_1 rfl ?_
  refine sm_cV (pc := 2) (ci := 9) (n := 2) (mc := 0) (ms := 0) rfl m_X9_isPart (cr_X9_287 (X := X_X9_classOf) (fr := 3) (frc := 2) (pc := 2) (mc := 0) (ms := 0) rfl (by decide) dX9_classOf_2) ?_
  refine sm_if_ne (pc := 5) (tgt := 11) dX9_classOf_5 (by decide) ?_ ?_
  · skip
    refine sm_iload_n (pc := 11) (n := 2) dX9_classOf_11 rfl ?_
    refine sm_tsw2 (pc := 12) (n := 4) (tdf := 91) [48, 55, 62, 72, 79] rfl (by decide) dX9_classOf_12 rfl (by decide +kernel) (by decide) (sbX9_classOf_91 P) (fun i k t hk ht => ?_)
    match i, hk, ht with
    | 0, hk, ht => cases hk; cases ht; exact sbX9_classOf_48 P
    | 1, hk, ht => cases hk; cases ht; exact sbX9_classOf_55 P
    | 2, hk, ht => cases hk; cases ht; exact sbX9_classOf_62 P
    | 3, hk, ht => cases hk; cases ht; exact sbX9_classOf_72 P
    | 4, hk, ht => cases hk; cases ht; exact sbX9_classOf_79 P
    | i + 5, hk, ht => cases hk
  · skip
    refine sm_bipush (pc := 8) dX9_classOf_8 zc_b_m2 ?_
    exact sm_ireturn (pc := 10) dX9_classOf_10 rfl
noncomputable def f_X9_classOf {d : Nat} : List zV → zH d → zP d → Bool := zfn 3 b_X9_classOf
theorem m_X9_classOf {d : Nat} : zMet (d := d) X_X9_classOf yX9_classOf 3 f_X9_classOf := zmet_mk (X := X_X9_classOf) (by decide) rfl rfl s_X9_classOf

abbrev X_X9_character : zM := (RX9, cX9_character, 3, (some .int), "character")
noncomputable def bX9_character_33 {d : Nat} (P : zP d) : zK d := (xiret P)
set_option maxRecDepth 100000 in
set_option maxHeartbeats 4000000 in
theorem sbX9_character_33 {d : Nat} [zGh] (P : zP d) : zSim X_X9_character 3 P 33 (bX9_character_33 P) := by
  unfold bX9_character_33
  exact sm_ireturn (pc := 33) dX9_character_33 rfl
noncomputable def bX9_character_30 {d : Nat} (P : zP d) (j33 : zK d) : zK d := (xpI 4294966295 j33)
set_option maxRecDepth 100000 in
set_option maxHeartbeats 4000000 in
theorem sbX9_character_30 {d : Nat} [zGh] (P : zP d) (j33 : zK d) (hj33 : zSim X_X9_character 3 P 33 j33) : zSim X_X9_character 3 P 30 (bX9_character_30 P j33) := by
  unfold bX9_character_30
  refine sm_sipush (pc := 30) dX9_character_30 zc_s_m1001 ?_
  exact hj33
noncomputable def b_X9_character {d : Nat} (P : zP d) : zK d := (xald 0 (xild 1 (xcV 25 2 0 0 f_X9_isPart (xjoin (bX9_character_33 P) (fun j33 => (xjoin (bX9_character_30 P j33) (fun j30 => (xif0 t0eq j30 (xald 0 (xild 2 (xcV 25 2 0 0 f_X9_isPart (xif0 t0eq j30 (xald 0 (xgfR 25 14 (xpI 11 (xild 1 (xbin zmul (xild 2 (xbin zadd (xald1 0 j33))))))))))))))))))))
set_option maxRecDepth 100000 in
set_option maxHeartbeats 4000000 in
theorem s_X9_character {d : Nat} [zGh] (P : zP d) : zSim X_X9_character 3 P 0 (b_X9_character P) := by
  unfold b_X9_character
  refine sm_aload_n (pc := 0) (n := 0) dX9_character_0 rfl ?_
  refine sm_iload_n (pc := 1) (n := 1) dX9_character_1 rfl ?_
  refine sm_cV (pc := 2) (ci := 9) (n := 2) (mc := 0) (ms := 0) rfl m_X9_isPart (cr_X9_287 (X := X_X9_character) (fr := 3) (frc := 2) (pc := 2) (mc := 0) (ms := 0) rfl (by decide) dX9_character_2) ?_
  refine sm_join (pc := 5) (pc' := 33) (sbX9_character_33 P) (fun j33 hj33 => ?_)
  refine sm_join (pc := 5) (pc' := 30) (sbX9_character_30 P j33 hj33) (fun j30 hj30 => ?_)
  refine sm_if_eq (pc := 5) (tgt := 30) dX9_character_5 (by decide) ?_ ?_
  · skip
    exact hj30
  · skip
    refine sm_aload_n (pc := 8) (n := 0) dX9_character_8 rfl ?_
    refine sm_iload_n (pc := 9) (n := 2) dX9_character_9 rfl ?_
    refine sm_cV (pc := 10) (ci := 9) (n := 2) (mc := 0) (ms := 0) rfl m_X9_isPart (cr_X9_287 (X := X_X9_character) (fr := 3) (frc := 2) (pc := 10) (mc := 0) (ms := 0) rfl (by decide) dX9_character_10) ?_
    refine sm_if_eq (pc := 13) (tgt := 30) dX9_character_13 (by decide) ?_ ?_
    · skip
      exact hj30
    · skip
      refine sm_aload_n (pc := 16) (n := 0) dX9_character_16 rfl ?_
      refine gf_X9_38 (pc := 17) rfl dX9_character_17 ?_
      refine sm_bipush (pc := 20) dX9_character_20 zc_b_11 ?_
      refine sm_iload_n (pc := 22) (n := 1) dX9_character_22 rfl ?_
      refine sm_imul (pc := 23) dX9_character_23 ?_
      refine sm_iload_n (pc := 24) (n := 2) dX9_character_24 rfl ?_
      refine sm_iadd (pc := 25) dX9_character_25 ?_
      refine sm_iaload (pc := 26) dX9_character_26 ?_
      refine sm_goto (pc := 27) (tgt := 33) dX9_character_27 (by decide) ?_
      exact hj33
noncomputable def f_X9_character {d : Nat} : List zV → zH d → zP d → Bool := zfn 3 b_X9_character
theorem m_X9_character {d : Nat} : zMet (d := d) X_X9_character yX9_character 3 f_X9_character := zmet_mk (X := X_X9_character) (by decide) rfl rfl s_X9_character

abbrev X_X9_modular : zM := (RX9, cX9_modular, 3, (some .int), "modular")
noncomputable def bX9_modular_51 {d : Nat} (P : zP d) : zK d := (xiret P)
set_option maxRecDepth 100000 in
set_option maxHeartbeats 4000000 in
theorem sbX9_modular_51 {d : Nat} [zGh] (P : zP d) : zSim X_X9_modular 3 P 51 (bX9_modular_51 P) := by
  unfold bX9_modular_51
  exact sm_ireturn (pc := 51) dX9_modular_51 rfl
noncomputable def bX9_modular_48 {d : Nat} (P : zP d) (j51 : zK d) : zK d := (xpI 4294966295 j51)
set_option maxRecDepth 100000 in
set_option maxHeartbeats 4000000 in
theorem sbX9_modular_48 {d : Nat} [zGh] (P : zP d) (j51 : zK d) (hj51 : zSim X_X9_modular 3 P 51 j51) : zSim X_X9_modular 3 P 48 (bX9_modular_48 P j51) := by
  unfold bX9_modular_48
  refine sm_sipush (pc := 48) dX9_modular_48 zc_s_m1001 ?_
  exact hj51
noncomputable def cX9_modular_43 {d : Nat} (P : zP d) (j51 : zK d) : zK d := (xbin zadd (xald1 0 j51))
set_option maxRecDepth 100000 in
set_option maxHeartbeats 4000000 in
theorem scX9_modular_43 {d : Nat} [zGh] (P : zP d) (j51 : zK d) (hj51 : zSim X_X9_modular 3 P 51 j51) : zSim X_X9_modular 3 P 43 (cX9_modular_43 P j51) := by
  unfold cX9_modular_43
  refine sm_iadd (pc := 43) dX9_modular_43 ?_
  refine sm_iaload (pc := 44) dX9_modular_44 ?_
  refine sm_goto (pc := 45) (tgt := 51) dX9_modular_45 (by decide) ?_
  exact hj51
noncomputable def b_X9_modular {d : Nat} (P : zP d) : zK d := (xald 0 (xild 1 (xcV 25 2 0 0 f_X9_isPart (xjoin (bX9_modular_51 P) (fun j51 => (xjoin (bX9_modular_48 P j51) (fun j48 => (xif0 t0eq j48 (xald 0 (xild 2 (xcV 25 2 0 0 f_X9_isPart (xif0 t0eq j48 (xald 0 (xgfR 25 7 (xild 1 (xald1 1 (xif0 t0eq j48 (xald 0 (xgfR 25 8 (xild 2 (xald1 1 (xif0 t0eq j48 (xald 0 (xgfR 25 37 (xpI 11 (xild 1 (xbin zmul (xild 2 (cX9_modular_43 P j51)))))))))))))))))))))))))))))
set_option maxRecDepth 100000 in
set_option maxHeartbeats 4000000 in
theorem s_X9_modular {d : Nat} [zGh] (P : zP d) : zSim X_X9_modular 3 P 0 (b_X9_modular P) := by
  unfold b_X9_modular
  refine sm_aload_n (pc := 0) (n := 0) dX9_modular_0 rfl ?_
  refine sm_iload_n (pc := 1) (n := 1) dX9_modular_1 rfl ?_
  refine sm_cV (pc := 2) (ci := 9) (n := 2) (mc := 0) (ms := 0) rfl m_X9_isPart (cr_X9_287 (X := X_X9_modular) (fr := 3) (frc := 2) (pc := 2) (mc := 0) (ms := 0) rfl (by decide) dX9_modular_2) ?_
  refine sm_join (pc := 5) (pc' := 51) (sbX9_modular_51 P) (fun j51 hj51 => ?_)
  refine sm_join (pc := 5) (pc' := 48) (sbX9_modular_48 P j51 hj51) (fun j48 hj48 => ?_)
  refine sm_if_eq (pc := 5) (tgt := 48) dX9_modular_5 (by decide) ?_ ?_
  · skip
    exact hj48
  · skip
    refine sm_aload_n (pc := 8) (n := 0) dX9_modular_8 rfl ?_
    refine sm_iload_n (pc := 9) (n := 2) dX9_modular_9 rfl ?_
    refine sm_cV (pc := 10) (ci := 9) (n := 2) (mc := 0) (ms := 0) rfl m_X9_isPart (cr_X9_287 (X := X_X9_modular) (fr := 3) (frc := 2) (pc := 10) (mc := 0) (ms := 0) rfl (by decide) dX9_modular_10) ?_
    refine sm_if_eq (pc := 13) (tgt := 48) dX9_modular_13 (by decide) ?_ ?_
    · skip
      exact hj48
    · skip
      refine sm_aload_n (pc := 16) (n := 0) dX9_modular_16 rfl ?_
      refine gf_X9_22 (pc := 17) rfl dX9_modular_17 ?_
      refine sm_iload_n (pc := 20) (n := 1) dX9_modular_20 rfl ?_
      refine sm_baload (pc := 21) dX9_modular_21 ?_
      refine sm_if_eq (pc := 22) (tgt := 48) dX9_modular_22 (by decide) ?_ ?_
      · skip
        exact hj48
      · skip
        refine sm_aload_n (pc := 25) (n := 0) dX9_modular_25 rfl ?_
        refine gf_X9_26 (pc := 26) rfl dX9_modular_26 ?_
        refine sm_iload_n (pc := 29) (n := 2) dX9_modular_29 rfl ?_
        refine sm_baload (pc := 30) dX9_modular_30 ?_
        refine sm_if_eq (pc := 31) (tgt := 48) dX9_modular_31 (by decide) ?_ ?_
        · skip
          exact hj48
        · skip
          refine sm_aload_n (pc := 34) (n := 0) dX9_modular_34 rfl ?_
          refine gf_X9_96 (pc := 35) rfl dX9_modular_35 ?_
          refine sm_bipush (pc := 38) dX9_modular_38 zc_b_11 ?_
          refine sm_iload_n (pc := 40) (n := 1) dX9_modular_40 rfl ?_
          refine sm_imul (pc := 41) dX9_modular_41 ?_
          refine sm_iload_n (pc := 42) (n := 2) dX9_modular_42 rfl ?_
          exact scX9_modular_43 P j51 hj51
noncomputable def f_X9_modular {d : Nat} : List zV → zH d → zP d → Bool := zfn 3 b_X9_modular
theorem m_X9_modular {d : Nat} : zMet (d := d) X_X9_modular yX9_modular 3 f_X9_modular := zmet_mk (X := X_X9_modular) (by decide) rfl rfl s_X9_modular

abbrev X_X9_projective : zM := (RX9, cX9_projective, 3, (some .int), "projective")
noncomputable def bX9_projective_42 {d : Nat} (P : zP d) : zK d := (xiret P)
set_option maxRecDepth 100000 in
set_option maxHeartbeats 4000000 in
theorem sbX9_projective_42 {d : Nat} [zGh] (P : zP d) : zSim X_X9_projective 3 P 42 (bX9_projective_42 P) := by
  unfold bX9_projective_42
  exact sm_ireturn (pc := 42) dX9_projective_42 rfl
noncomputable def bX9_projective_39 {d : Nat} (P : zP d) (j42 : zK d) : zK d := (xpI 4294966295 j42)
set_option maxRecDepth 100000 in
set_option maxHeartbeats 4000000 in
theorem sbX9_projective_39 {d : Nat} [zGh] (P : zP d) (j42 : zK d) (hj42 : zSim X_X9_projective 3 P 42 j42) : zSim X_X9_projective 3 P 39 (bX9_projective_39 P j42) := by
  unfold bX9_projective_39
  refine sm_sipush (pc := 39) dX9_projective_39 zc_s_m1001 ?_
  exact hj42
noncomputable def b_X9_projective {d : Nat} (P : zP d) : zK d := (xald 0 (xild 1 (xcV 25 2 0 0 f_X9_isPart (xjoin (bX9_projective_42 P) (fun j42 => (xjoin (bX9_projective_39 P j42) (fun j39 => (xif0 t0eq j39 (xald 0 (xild 2 (xcV 25 2 0 0 f_X9_isPart (xif0 t0eq j39 (xald 0 (xgfR 25 7 (xild 1 (xald1 1 (xif0 t0eq j39 (xald 0 (xgfR 25 40 (xpI 11 (xild 1 (xbin zmul (xild 2 (xbin zadd (xald1 0 j42)))))))))))))))))))))))))
set_option maxRecDepth 100000 in
set_option maxHeartbeats 4000000 in
theorem s_X9_projective {d : Nat} [zGh] (P : zP d) : zSim X_X9_projective 3 P 0 (b_X9_projective P) := by
  unfold b_X9_projective
  refine sm_aload_n (pc := 0) (n := 0) dX9_projective_0 rfl ?_
  refine sm_iload_n (pc := 1) (n := 1) dX9_projective_1 rfl ?_
  refine sm_cV (pc := 2) (ci := 9) (n := 2) (mc := 0) (ms := 0) rfl m_X9_isPart (cr_X9_287 (X := X_X9_projective) (fr := 3) (frc := 2) (pc := 2) (mc := 0) (ms := 0) rfl (by decide) dX9_projective_2) ?_
  refine sm_join (pc := 5) (pc' := 42) (sbX9_projective_42 P) (fun j42 hj42 => ?_)
  refine sm_join (pc := 5) (pc' := 39) (sbX9_projective_39 P j42 hj42) (fun j39 hj39 => ?_)
  refine sm_if_eq (pc := 5) (tgt := 39) dX9_projective_5 (by decide) ?_ ?_
  · skip
    exact hj39
  · skip
    refine sm_aload_n (pc := 8) (n := 0) dX9_projective_8 rfl ?_
    refine sm_iload_n (pc := 9) (n := 2) dX9_projective_9 rfl ?_
    refine sm_cV (pc := 10) (ci := 9) (n := 2) (mc := 0) (ms := 0) rfl m_X9_isPart (cr_X9_287 (X := X_X9_projective) (fr := 3) (frc := 2) (pc := 10) (mc := 0) (ms := 0) rfl (by decide) dX9_projective_10) ?_
    refine sm_if_eq (pc := 13) (tgt := 39) dX9_projective_13 (by decide) ?_ ?_
    · skip
      exact hj39
    · skip
      refine sm_aload_n (pc := 16) (n := 0) dX9_projective_16 rfl ?_
      refine gf_X9_22 (pc := 17) rfl dX9_projective_17 ?_
      refine sm_iload_n (pc := 20) (n := 1) dX9_projective_20 rfl ?_
      refine sm_baload (pc := 21) dX9_projective_21 ?_
      refine sm_if_eq (pc := 22) (tgt := 39) dX9_projective_22 (by decide) ?_ ?_
      · skip
        exact hj39
      · skip
        refine sm_aload_n (pc := 25) (n := 0) dX9_projective_25 rfl ?_
        refine gf_X9_105 (pc := 26) rfl dX9_projective_26 ?_
        refine sm_bipush (pc := 29) dX9_projective_29 zc_b_11 ?_
        refine sm_iload_n (pc := 31) (n := 1) dX9_projective_31 rfl ?_
        refine sm_imul (pc := 32) dX9_projective_32 ?_
        refine sm_iload_n (pc := 33) (n := 2) dX9_projective_33 rfl ?_
        refine sm_iadd (pc := 34) dX9_projective_34 ?_
        refine sm_iaload (pc := 35) dX9_projective_35 ?_
        refine sm_goto (pc := 36) (tgt := 42) dX9_projective_36 (by decide) ?_
        exact hj42
noncomputable def f_X9_projective {d : Nat} : List zV → zH d → zP d → Bool := zfn 3 b_X9_projective
theorem m_X9_projective {d : Nat} : zMet (d := d) X_X9_projective yX9_projective 3 f_X9_projective := zmet_mk (X := X_X9_projective) (by decide) rfl rfl s_X9_projective

abbrev X_X9_isRegularOne : zM := (RX9, cX9_isRegularOne, 2, (some .boolean), "isRegularOne")
noncomputable def bX9_isRegularOne_22 {d : Nat} (P : zP d) : zK d := (xzret P)
set_option maxRecDepth 100000 in
set_option maxHeartbeats 4000000 in
theorem sbX9_isRegularOne_22 {d : Nat} [zGh] (P : zP d) : zSim X_X9_isRegularOne 3 P 22 (bX9_isRegularOne_22 P) := by
  unfold bX9_isRegularOne_22
  exact sm_zreturn (pc := 22) dX9_isRegularOne_22 rfl
noncomputable def bX9_isRegularOne_21 {d : Nat} (P : zP d) (j22 : zK d) : zK d := (xpI 0 j22)
set_option maxRecDepth 100000 in
set_option maxHeartbeats 4000000 in
theorem sbX9_isRegularOne_21 {d : Nat} [zGh] (P : zP d) (j22 : zK d) (hj22 : zSim X_X9_isRegularOne 3 P 22 j22) : zSim X_X9_isRegularOne 3 P 21 (bX9_isRegularOne_21 P j22) := by
  unfold bX9_isRegularOne_21
  refine sm_iconst (pc := 21) dX9_isRegularOne_21 zc_i_0 ?_
  exact hj22
noncomputable def b_X9_isRegularOne {d : Nat} (P : zP d) : zK d := (xald 0 (xild 1 (xcV 25 2 0 0 f_X9_isPart (xjoin (bX9_isRegularOne_22 P) (fun j22 => (xjoin (bX9_isRegularOne_21 P j22) (fun j21 => (xif0 t0eq j21 (xald 0 (xgfR 25 7 (xild 1 (xald1 1 (xif0 t0eq j21 (xpI 1 j22))))))))))))))
set_option maxRecDepth 100000 in
set_option maxHeartbeats 4000000 in
theorem s_X9_isRegularOne {d : Nat} [zGh] (P : zP d) : zSim X_X9_isRegularOne 3 P 0 (b_X9_isRegularOne P) := by
  unfold b_X9_isRegularOne
  refine sm_aload_n (pc := 0) (n := 0) dX9_isRegularOne_0 rfl ?_
  refine sm_iload_n (pc := 1) (n := 1) dX9_isRegularOne_1 rfl ?_
  refine sm_cV (pc := 2) (ci := 9) (n := 2) (mc := 0) (ms := 0) rfl m_X9_isPart (cr_X9_287 (X := X_X9_isRegularOne) (fr := 3) (frc := 2) (pc := 2) (mc := 0) (ms := 0) rfl (by decide) dX9_isRegularOne_2) ?_
  refine sm_join (pc := 5) (pc' := 22) (sbX9_isRegularOne_22 P) (fun j22 hj22 => ?_)
  refine sm_join (pc := 5) (pc' := 21) (sbX9_isRegularOne_21 P j22 hj22) (fun j21 hj21 => ?_)
  refine sm_if_eq (pc := 5) (tgt := 21) dX9_isRegularOne_5 (by decide) ?_ ?_
  · skip
    exact hj21
  · skip
    refine sm_aload_n (pc := 8) (n := 0) dX9_isRegularOne_8 rfl ?_
    refine gf_X9_22 (pc := 9) rfl dX9_isRegularOne_9 ?_
    refine sm_iload_n (pc := 12) (n := 1) dX9_isRegularOne_12 rfl ?_
    refine sm_baload (pc := 13) dX9_isRegularOne_13 ?_
    refine sm_if_eq (pc := 14) (tgt := 21) dX9_isRegularOne_14 (by decide) ?_ ?_
    · skip
      exact hj21
    · skip
      refine sm_iconst (pc := 17) dX9_isRegularOne_17 zc_i_1 ?_
      refine sm_goto (pc := 18) (tgt := 22) dX9_isRegularOne_18 (by decide) ?_
      exact hj22
noncomputable def f_X9_isRegularOne {d : Nat} : List zV → zH d → zP d → Bool := zfn 2 b_X9_isRegularOne
theorem m_X9_isRegularOne {d : Nat} : zMet (d := d) X_X9_isRegularOne yX9_isRegularOne 3 f_X9_isRegularOne := zmet_mk (X := X_X9_isRegularOne) (by decide) rfl rfl s_X9_isRegularOne

abbrev X_X9_decomposition : zM := (RX9, cX9_decomposition, 3, (some .int), "decomposition")
noncomputable def bX9_decomposition_36 {d : Nat} (P : zP d) : zK d := (xiret P)
set_option maxRecDepth 100000 in
set_option maxHeartbeats 4000000 in
theorem sbX9_decomposition_36 {d : Nat} [zGh] (P : zP d) : zSim X_X9_decomposition 4 P 36 (bX9_decomposition_36 P) := by
  unfold bX9_decomposition_36
  exact sm_ireturn (pc := 36) dX9_decomposition_36 rfl
noncomputable def bX9_decomposition_35 {d : Nat} (P : zP d) (j36 : zK d) : zK d := (xpI 4294967295 j36)
set_option maxRecDepth 100000 in
set_option maxHeartbeats 4000000 in
theorem sbX9_decomposition_35 {d : Nat} [zGh] (P : zP d) (j36 : zK d) (hj36 : zSim X_X9_decomposition 4 P 36 j36) : zSim X_X9_decomposition 4 P 35 (bX9_decomposition_35 P j36) := by
  unfold bX9_decomposition_35
  refine sm_iconst (pc := 35) dX9_decomposition_35 zc_i_m1 ?_
  exact hj36
noncomputable def b_X9_decomposition {d : Nat} (P : zP d) : zK d := (xald 0 (xild 1 (xcV 25 2 0 0 f_X9_isPart (xjoin (bX9_decomposition_36 P) (fun j36 => (xjoin (bX9_decomposition_35 P j36) (fun j35 => (xif0 t0eq j35 (xald 0 (xild 2 (xcV 25 2 0 0 f_X9_isRegularOne (xif0 t0eq j35 (xald 0 (xgfR 25 38 (xpI 11 (xild 1 (xbin zmul (xald 0 (xgfR 25 10 (xild 2 (xald1 0 (xbin zadd (xald1 0 j36)))))))))))))))))))))))
set_option maxRecDepth 100000 in
set_option maxHeartbeats 4000000 in
theorem s_X9_decomposition {d : Nat} [zGh] (P : zP d) : zSim X_X9_decomposition 4 P 0 (b_X9_decomposition P) := by
  unfold b_X9_decomposition
  refine sm_aload_n (pc := 0) (n := 0) dX9_decomposition_0 rfl ?_
  refine sm_iload_n (pc := 1) (n := 1) dX9_decomposition_1 rfl ?_
  refine sm_cV (pc := 2) (ci := 9) (n := 2) (mc := 0) (ms := 0) rfl m_X9_isPart (cr_X9_287 (X := X_X9_decomposition) (fr := 4) (frc := 2) (pc := 2) (mc := 0) (ms := 0) rfl (by decide) dX9_decomposition_2) ?_
  refine sm_join (pc := 5) (pc' := 36) (sbX9_decomposition_36 P) (fun j36 hj36 => ?_)
  refine sm_join (pc := 5) (pc' := 35) (sbX9_decomposition_35 P j36 hj36) (fun j35 hj35 => ?_)
  refine sm_if_eq (pc := 5) (tgt := 35) dX9_decomposition_5 (by decide) ?_ ?_
  · skip
    exact hj35
  · skip
    refine sm_aload_n (pc := 8) (n := 0) dX9_decomposition_8 rfl ?_
    refine sm_iload_n (pc := 9) (n := 2) dX9_decomposition_9 rfl ?_
    refine sm_cV (pc := 10) (ci := 9) (n := 2) (mc := 0) (ms := 0) rfl m_X9_isRegularOne (cr_X9_303 (X := X_X9_decomposition) (fr := 4) (frc := 3) (pc := 10) (mc := 0) (ms := 0) rfl (by decide) dX9_decomposition_10) ?_
    refine sm_if_eq (pc := 13) (tgt := 35) dX9_decomposition_13 (by decide) ?_ ?_
    · skip
      exact hj35
    · skip
      refine sm_aload_n (pc := 16) (n := 0) dX9_decomposition_16 rfl ?_
      refine gf_X9_99 (pc := 17) rfl dX9_decomposition_17 ?_
      refine sm_bipush (pc := 20) dX9_decomposition_20 zc_b_11 ?_
      refine sm_iload_n (pc := 22) (n := 1) dX9_decomposition_22 rfl ?_
      refine sm_imul (pc := 23) dX9_decomposition_23 ?_
      refine sm_aload_n (pc := 24) (n := 0) dX9_decomposition_24 rfl ?_
      refine gf_X9_32 (pc := 25) rfl dX9_decomposition_25 ?_
      refine sm_iload_n (pc := 28) (n := 2) dX9_decomposition_28 rfl ?_
      refine sm_iaload (pc := 29) dX9_decomposition_29 ?_
      refine sm_iadd (pc := 30) dX9_decomposition_30 ?_
      refine sm_iaload (pc := 31) dX9_decomposition_31 ?_
      refine sm_goto (pc := 32) (tgt := 36) dX9_decomposition_32 (by decide) ?_
      exact hj36
noncomputable def f_X9_decomposition {d : Nat} : List zV → zH d → zP d → Bool := zfn 3 b_X9_decomposition
theorem m_X9_decomposition {d : Nat} : zMet (d := d) X_X9_decomposition yX9_decomposition 4 f_X9_decomposition := zmet_mk (X := X_X9_decomposition) (by decide) rfl rfl s_X9_decomposition

abbrev X_X9_cartanOf : zM := (RX9, cX9_cartanOf, 5, (some .int), "cartanOf")
noncomputable def cX9_cartanOf_46 {d : Nat} (P : zP d) (r5 : zK d) : zK d := (xald1 0 (xbin zadd (xald1 0 (xbin zmul (xbin zadd (xist 3 (xinc 4 1 r5)))))))
set_option maxRecDepth 100000 in
set_option maxHeartbeats 4000000 in
theorem scX9_cartanOf_46 {d : Nat} [zGh] (P : zP d) (r5 : zK d) (hr5 : zSim X_X9_cartanOf 1 P 5 r5) : zSim X_X9_cartanOf 1 P 46 (cX9_cartanOf_46 P r5) := by
  unfold cX9_cartanOf_46
  refine sm_iaload (pc := 46) dX9_cartanOf_46 ?_
  refine sm_iadd (pc := 47) dX9_cartanOf_47 ?_
  refine sm_iaload (pc := 48) dX9_cartanOf_48 ?_
  refine sm_imul (pc := 49) dX9_cartanOf_49 ?_
  refine sm_iadd (pc := 50) dX9_cartanOf_50 ?_
  refine sm_istore_n (pc := 51) (n := 3) dX9_cartanOf_51 rfl ?_
  refine sm_iinc (pc := 52) (n := 4) dX9_cartanOf_52 zc_i_1 ?_
  refine sm_goto (pc := 55) (tgt := 5) dX9_cartanOf_55 (by decide) ?_
  exact hr5
noncomputable def lX9_cartanOf_5 {d : Nat} (P : zP d) (r5 : zK d) : zK d := (xild 4 (xald 0 (xgfI 25 2 (xcmp tge (xild 3 (xiret P)) (xild 3 (xald 0 (xgfR 25 38 (xpI 11 (xild 4 (xbin zmul (xald 0 (xgfR 25 10 (xild 1 (xald1 0 (xbin zadd (xald1 0 (xald 0 (xgfR 25 38 (xpI 11 (xild 4 (xbin zmul (xald 0 (xgfR 25 10 (xild 2 (cX9_cartanOf_46 P r5)))))))))))))))))))))))))
set_option maxRecDepth 100000 in
set_option maxHeartbeats 4000000 in
theorem slX9_cartanOf_5 {d : Nat} [zGh] (P : zP d) (r5 : zK d) (hr5 : zSim X_X9_cartanOf 1 P 5 r5) : zSim X_X9_cartanOf 1 P 5 (lX9_cartanOf_5 P r5) := by
  unfold lX9_cartanOf_5
  refine sm_iload (pc := 5) (n := 4) dX9_cartanOf_5 ?_
  refine sm_aload_n (pc := 7) (n := 0) dX9_cartanOf_7 rfl ?_
  refine gf_X9_153 (pc := 8) rfl dX9_cartanOf_8 ?_
  refine sm_icmp_ge (pc := 11) (tgt := 58) dX9_cartanOf_11 (by decide) ?_ ?_
  · skip
    refine sm_iload_n (pc := 58) (n := 3) dX9_cartanOf_58 rfl ?_
    exact sm_ireturn (pc := 59) dX9_cartanOf_59 rfl
  · skip
    refine sm_iload_n (pc := 14) (n := 3) dX9_cartanOf_14 rfl ?_
    refine sm_aload_n (pc := 15) (n := 0) dX9_cartanOf_15 rfl ?_
    refine gf_X9_99 (pc := 16) rfl dX9_cartanOf_16 ?_
    refine sm_bipush (pc := 19) dX9_cartanOf_19 zc_b_11 ?_
    refine sm_iload (pc := 21) (n := 4) dX9_cartanOf_21 ?_
    refine sm_imul (pc := 23) dX9_cartanOf_23 ?_
    refine sm_aload_n (pc := 24) (n := 0) dX9_cartanOf_24 rfl ?_
    refine gf_X9_32 (pc := 25) rfl dX9_cartanOf_25 ?_
    refine sm_iload_n (pc := 28) (n := 1) dX9_cartanOf_28 rfl ?_
    refine sm_iaload (pc := 29) dX9_cartanOf_29 ?_
    refine sm_iadd (pc := 30) dX9_cartanOf_30 ?_
    refine sm_iaload (pc := 31) dX9_cartanOf_31 ?_
    refine sm_aload_n (pc := 32) (n := 0) dX9_cartanOf_32 rfl ?_
    refine gf_X9_99 (pc := 33) rfl dX9_cartanOf_33 ?_
    refine sm_bipush (pc := 36) dX9_cartanOf_36 zc_b_11 ?_
    refine sm_iload (pc := 38) (n := 4) dX9_cartanOf_38 ?_
    refine sm_imul (pc := 40) dX9_cartanOf_40 ?_
    refine sm_aload_n (pc := 41) (n := 0) dX9_cartanOf_41 rfl ?_
    refine gf_X9_32 (pc := 42) rfl dX9_cartanOf_42 ?_
    refine sm_iload_n (pc := 45) (n := 2) dX9_cartanOf_45 rfl ?_
    exact scX9_cartanOf_46 P r5 hr5
noncomputable def b_X9_cartanOf {d : Nat} (P : zP d) : zK d := (xpI 0 (xist 3 (xpI 0 (xist 4 (xloop (fun r5 => (lX9_cartanOf_5 P r5)) 100000)))))
set_option maxRecDepth 100000 in
set_option maxHeartbeats 4000000 in
theorem s_X9_cartanOf {d : Nat} [zGh] (P : zP d) : zSim X_X9_cartanOf 1 P 0 (b_X9_cartanOf P) := by
  unfold b_X9_cartanOf
  refine sm_iconst (pc := 0) dX9_cartanOf_0 zc_i_0 ?_
  refine sm_istore_n (pc := 1) (n := 3) dX9_cartanOf_1 rfl ?_
  refine sm_iconst (pc := 2) dX9_cartanOf_2 zc_i_0 ?_
  refine sm_istore (pc := 3) (n := 4) dX9_cartanOf_3 ?_
  exact sm_loop (fun r5 hr5 => slX9_cartanOf_5 P r5 hr5) _
noncomputable def f_X9_cartanOf {d : Nat} : List zV → zH d → zP d → Bool := zfn 5 b_X9_cartanOf
theorem m_X9_cartanOf {d : Nat} : zMet (d := d) X_X9_cartanOf yX9_cartanOf 1 f_X9_cartanOf := zmet_mk (X := X_X9_cartanOf) (by decide) rfl rfl s_X9_cartanOf

abbrev X_X9_cartan : zM := (RX9, cX9_cartan, 3, (some .int), "cartan")
noncomputable def bX9_cartan_26 {d : Nat} (P : zP d) : zK d := (xiret P)
set_option maxRecDepth 100000 in
set_option maxHeartbeats 4000000 in
theorem sbX9_cartan_26 {d : Nat} [zGh] (P : zP d) : zSim X_X9_cartan 4 P 26 (bX9_cartan_26 P) := by
  unfold bX9_cartan_26
  exact sm_ireturn (pc := 26) dX9_cartan_26 rfl
noncomputable def bX9_cartan_25 {d : Nat} (P : zP d) (j26 : zK d) : zK d := (xpI 4294967295 j26)
set_option maxRecDepth 100000 in
set_option maxHeartbeats 4000000 in
theorem sbX9_cartan_25 {d : Nat} [zGh] (P : zP d) (j26 : zK d) (hj26 : zSim X_X9_cartan 4 P 26 j26) : zSim X_X9_cartan 4 P 25 (bX9_cartan_25 P j26) := by
  unfold bX9_cartan_25
  refine sm_iconst (pc := 25) dX9_cartan_25 zc_i_m1 ?_
  exact hj26
noncomputable def b_X9_cartan {d : Nat} (P : zP d) : zK d := (xald 0 (xild 1 (xcV 25 2 0 0 f_X9_isRegularOne (xjoin (bX9_cartan_26 P) (fun j26 => (xjoin (bX9_cartan_25 P j26) (fun j25 => (xif0 t0eq j25 (xald 0 (xild 2 (xcV 25 2 0 0 f_X9_isRegularOne (xif0 t0eq j25 (xald 0 (xild 1 (xild 2 (xcV 25 3 0 0 f_X9_cartanOf j26))))))))))))))))
set_option maxRecDepth 100000 in
set_option maxHeartbeats 4000000 in
theorem s_X9_cartan {d : Nat} [zGh] (P : zP d) : zSim X_X9_cartan 4 P 0 (b_X9_cartan P) := by
  unfold b_X9_cartan
  refine sm_aload_n (pc := 0) (n := 0) dX9_cartan_0 rfl ?_
  refine sm_iload_n (pc := 1) (n := 1) dX9_cartan_1 rfl ?_
  refine sm_cV (pc := 2) (ci := 9) (n := 2) (mc := 0) (ms := 0) rfl m_X9_isRegularOne (cr_X9_303 (X := X_X9_cartan) (fr := 4) (frc := 3) (pc := 2) (mc := 0) (ms := 0) rfl (by decide) dX9_cartan_2) ?_
  refine sm_join (pc := 5) (pc' := 26) (sbX9_cartan_26 P) (fun j26 hj26 => ?_)
  refine sm_join (pc := 5) (pc' := 25) (sbX9_cartan_25 P j26 hj26) (fun j25 hj25 => ?_)
  refine sm_if_eq (pc := 5) (tgt := 25) dX9_cartan_5 (by decide) ?_ ?_
  · skip
    exact hj25
  · skip
    refine sm_aload_n (pc := 8) (n := 0) dX9_cartan_8 rfl ?_
    refine sm_iload_n (pc := 9) (n := 2) dX9_cartan_9 rfl ?_
    refine sm_cV (pc := 10) (ci := 9) (n := 2) (mc := 0) (ms := 0) rfl m_X9_isRegularOne (cr_X9_303 (X := X_X9_cartan) (fr := 4) (frc := 3) (pc := 10) (mc := 0) (ms := 0) rfl (by decide) dX9_cartan_10) ?_
    refine sm_if_eq (pc := 13) (tgt := 25) dX9_cartan_13 (by decide) ?_ ?_
    · skip
      exact hj25
    · skip
      refine sm_aload_n (pc := 16) (n := 0) dX9_cartan_16 rfl ?_
      refine sm_iload_n (pc := 17) (n := 1) dX9_cartan_17 rfl ?_
      refine sm_iload_n (pc := 18) (n := 2) dX9_cartan_18 rfl ?_
      refine sm_cV (pc := 19) (ci := 9) (n := 3) (mc := 0) (ms := 0) rfl m_X9_cartanOf (cr_X9_306 (X := X_X9_cartan) (fr := 4) (frc := 1) (pc := 19) (mc := 0) (ms := 0) rfl (by decide) dX9_cartan_19) ?_
      refine sm_goto (pc := 22) (tgt := 26) dX9_cartan_22 (by decide) ?_
      exact hj26
noncomputable def f_X9_cartan {d : Nat} : List zV → zH d → zP d → Bool := zfn 3 b_X9_cartan
theorem m_X9_cartan {d : Nat} : zMet (d := d) X_X9_cartan yX9_cartan 4 f_X9_cartan := zmet_mk (X := X_X9_cartan) (by decide) rfl rfl s_X9_cartan

abbrev X_X9_tableau : zM := (RX9, cX9_tableau, 5, (some .int), "tableau")
noncomputable def bX9_tableau_71 {d : Nat} (P : zP d) : zK d := (xpI 4294967295 (xiret P))
set_option maxRecDepth 100000 in
set_option maxHeartbeats 4000000 in
theorem sbX9_tableau_71 {d : Nat} [zGh] (P : zP d) : zSim X_X9_tableau 3 P 71 (bX9_tableau_71 P) := by
  unfold bX9_tableau_71
  refine sm_iconst (pc := 71) dX9_tableau_71 zc_i_m1 ?_
  exact sm_ireturn (pc := 72) dX9_tableau_72 rfl
noncomputable def cX9_tableau_91 {d : Nat} (P : zP d) : zK d := (xbin zadd (xbin zmul (xald 0 (xild 3 (xild 4 (xcV 25 3 0 0 f_X9_cellAt (xbin zadd (xald1 0 (xiret P)))))))))
set_option maxRecDepth 100000 in
set_option maxHeartbeats 4000000 in
theorem scX9_tableau_91 {d : Nat} [zGh] (P : zP d) : zSim X_X9_tableau 3 P 91 (cX9_tableau_91 P) := by
  unfold cX9_tableau_91
  refine sm_iadd (pc := 91) dX9_tableau_91 ?_
  refine sm_imul (pc := 92) dX9_tableau_92 ?_
  refine sm_aload_n (pc := 93) (n := 0) dX9_tableau_93 rfl ?_
  refine sm_iload_n (pc := 94) (n := 3) dX9_tableau_94 rfl ?_
  refine sm_iload (pc := 95) (n := 4) dX9_tableau_95 ?_
  refine sm_cV (pc := 97) (ci := 9) (n := 3) (mc := 0) (ms := 0) rfl m_X9_cellAt (cr_X9_214 (X := X_X9_tableau) (fr := 3) (frc := 2) (pc := 97) (mc := 0) (ms := 0) rfl (by decide) dX9_tableau_97) ?_
  refine sm_iadd (pc := 100) dX9_tableau_100 ?_
  refine sm_iaload (pc := 101) dX9_tableau_101 ?_
  exact sm_ireturn (pc := 102) dX9_tableau_102 rfl
noncomputable def cX9_tableau_49 {d : Nat} (P : zP d) (j71 : zK d) : zK d := (xif0 t0eq j71 (xild 4 (xi2l (xpL 0 (xald 0 (xild 1 (xild 3 (xcV 25 3 0 0 f_X9_partOf (xpI 1 (xbin zsub (xi2l (xcS 3 0 0 f_X9_isIn (xif0 t0eq j71 (xald 0 (xild 1 (xpfI 25 25 (xald 0 (xgfR 25 22 (xpI 6 (xald 0 (xgfR 25 20 (xild 1 (xald1 0 (xild 2 (cX9_tableau_91 P)))))))))))))))))))))))))
set_option maxRecDepth 100000 in
set_option maxHeartbeats 4000000 in
theorem scX9_tableau_49 {d : Nat} [zGh] (P : zP d) (j71 : zK d) (hj71 : zSim X_X9_tableau 3 P 71 j71) : zSim X_X9_tableau 3 P 49 (cX9_tableau_49 P j71) := by
  unfold cX9_tableau_49
  refine sm_if_eq (pc := 49) (tgt := 71) dX9_tableau_49 (by decide) ?_ ?_
  · skip
    exact hj71
  · skip
    refine sm_iload (pc := 52) (n := 4) dX9_tableau_52 ?_
    refine sm_i2l (pc := 54) dX9_tableau_54 ?_
    refine sm_lconst (pc := 55) dX9_tableau_55 zc_l_0 ?_
    refine sm_aload_n (pc := 56) (n := 0) dX9_tableau_56 rfl ?_
    refine sm_iload_n (pc := 57) (n := 1) dX9_tableau_57 rfl ?_
    refine sm_iload_n (pc := 58) (n := 3) dX9_tableau_58 rfl ?_
    refine sm_cV (pc := 59) (ci := 9) (n := 3) (mc := 0) (ms := 0) rfl m_X9_partOf (cr_X9_175 (X := X_X9_tableau) (fr := 3) (frc := 1) (pc := 59) (mc := 0) (ms := 0) rfl (by decide) dX9_tableau_59) ?_
    refine sm_iconst (pc := 62) dX9_tableau_62 zc_i_1 ?_
    refine sm_isub (pc := 63) dX9_tableau_63 ?_
    refine sm_i2l (pc := 64) dX9_tableau_64 ?_
    refine sm_cS (pc := 65) (n := 3) (mc := 0) (ms := 0) m_X9_isIn (cr_X9_283 (X := X_X9_tableau) (fr := 3) (frc := 1) (pc := 65) (mc := 0) (ms := 0) rfl (by decide) dX9_tableau_65) ?_
    refine sm_if_ne (pc := 68) (tgt := 73) dX9_tableau_68 (by decide) ?_ ?_
    · skip
      refine sm_aload_n (pc := 73) (n := 0) dX9_tableau_73 rfl ?_
      refine sm_iload_n (pc := 74) (n := 1) dX9_tableau_74 rfl ?_
      refine pf_X9_205 (pc := 75) rfl dX9_tableau_75 ?_
      refine sm_aload_n (pc := 78) (n := 0) dX9_tableau_78 rfl ?_
      refine gf_X9_59 (pc := 79) rfl dX9_tableau_79 ?_
      refine sm_bipush (pc := 82) dX9_tableau_82 zc_b_6 ?_
      refine sm_aload_n (pc := 84) (n := 0) dX9_tableau_84 rfl ?_
      refine gf_X9_53 (pc := 85) rfl dX9_tableau_85 ?_
      refine sm_iload_n (pc := 88) (n := 1) dX9_tableau_88 rfl ?_
      refine sm_iaload (pc := 89) dX9_tableau_89 ?_
      refine sm_iload_n (pc := 90) (n := 2) dX9_tableau_90 rfl ?_
      exact scX9_tableau_91 P
    · skip
      exact hj71
noncomputable def b_X9_tableau {d : Nat} (P : zP d) : zK d := (xald 0 (xild 1 (xcV 25 2 0 0 f_X9_isPart (xif0 t0eq (xpI 4294967295 (xiret P)) (xild 3 (xpI 4294967295 (xcmp Nat.beq (xald 0 (xgfR 25 21 (xild 1 (xald1 0 (xiret P))))) (xild 2 (xi2l (xpL 0 (xald 0 (xgfR 25 21 (xild 1 (xald1 0 (xpI 1 (xbin zsub (xi2l (xcS 3 0 0 f_X9_isIn (xjoin (bX9_tableau_71 P) (fun j71 => (xif0 t0eq j71 (xild 3 (xi2l (xpL 0 (xpL 5 (xcS 3 0 0 f_X9_isIn (cX9_tableau_49 P j71)))))))))))))))))))))))))))
set_option maxRecDepth 100000 in
set_option maxHeartbeats 4000000 in
theorem s_X9_tableau {d : Nat} [zGh] (P : zP d) : zSim X_X9_tableau 3 P 0 (b_X9_tableau P) := by
  unfold b_X9_tableau
  refine sm_aload_n (pc := 0) (n := 0) dX9_tableau_0 rfl ?_
  refine sm_iload_n (pc := 1) (n := 1) dX9_tableau_1 rfl ?_
  refine sm_cV (pc := 2) (ci := 9) (n := 2) (mc := 0) (ms := 0) rfl m_X9_isPart (cr_X9_287 (X := X_X9_tableau) (fr := 3) (frc := 2) (pc := 2) (mc := 0) (ms := 0) rfl (by decide) dX9_tableau_2) ?_
  refine sm_if_ne (pc := 5) (tgt := 10) dX9_tableau_5 (by decide) ?_ ?_
  · skip
    refine sm_iload_n (pc := 10) (n := 3) dX9_tableau_10 rfl ?_
    refine sm_iconst (pc := 11) dX9_tableau_11 zc_i_m1 ?_
    refine sm_icmp_ne (pc := 12) (tgt := 22) dX9_tableau_12 (by decide) ?_ ?_
    · skip
      refine sm_iload_n (pc := 22) (n := 2) dX9_tableau_22 rfl ?_
      refine sm_i2l (pc := 23) dX9_tableau_23 ?_
      refine sm_lconst (pc := 24) dX9_tableau_24 zc_l_0 ?_
      refine sm_aload_n (pc := 25) (n := 0) dX9_tableau_25 rfl ?_
      refine gf_X9_56 (pc := 26) rfl dX9_tableau_26 ?_
      refine sm_iload_n (pc := 29) (n := 1) dX9_tableau_29 rfl ?_
      refine sm_iaload (pc := 30) dX9_tableau_30 ?_
      refine sm_iconst (pc := 31) dX9_tableau_31 zc_i_1 ?_
      refine sm_isub (pc := 32) dX9_tableau_32 ?_
      refine sm_i2l (pc := 33) dX9_tableau_33 ?_
      refine sm_cS (pc := 34) (n := 3) (mc := 0) (ms := 0) m_X9_isIn (cr_X9_283 (X := X_X9_tableau) (fr := 3) (frc := 1) (pc := 34) (mc := 0) (ms := 0) rfl (by decide) dX9_tableau_34) ?_
      refine sm_join (pc := 37) (pc' := 71) (sbX9_tableau_71 P) (fun j71 hj71 => ?_)
      refine sm_if_eq (pc := 37) (tgt := 71) dX9_tableau_37 (by decide) ?_ ?_
      · skip
        exact hj71
      · skip
        refine sm_iload_n (pc := 40) (n := 3) dX9_tableau_40 rfl ?_
        refine sm_i2l (pc := 41) dX9_tableau_41 ?_
        refine sm_lconst (pc := 42) dX9_tableau_42 zc_l_0 ?_
        refine sm_ldc2 (pc := 43) dX9_tableau_43 wd_1247 zc_cl_5 ?_
        refine sm_cS (pc := 46) (n := 3) (mc := 0) (ms := 0) m_X9_isIn (cr_X9_283 (X := X_X9_tableau) (fr := 3) (frc := 1) (pc := 46) (mc := 0) (ms := 0) rfl (by decide) dX9_tableau_46) ?_
        exact scX9_tableau_49 P j71 hj71
    · skip
      refine sm_aload_n (pc := 15) (n := 0) dX9_tableau_15 rfl ?_
      refine gf_X9_56 (pc := 16) rfl dX9_tableau_16 ?_
      refine sm_iload_n (pc := 19) (n := 1) dX9_tableau_19 rfl ?_
      refine sm_iaload (pc := 20) dX9_tableau_20 ?_
      exact sm_ireturn (pc := 21) dX9_tableau_21 rfl
  · skip
    refine sm_iconst (pc := 8) dX9_tableau_8 zc_i_m1 ?_
    exact sm_ireturn (pc := 9) dX9_tableau_9 rfl
noncomputable def f_X9_tableau {d : Nat} : List zV → zH d → zP d → Bool := zfn 5 b_X9_tableau
theorem m_X9_tableau {d : Nat} : zMet (d := d) X_X9_tableau yX9_tableau 3 f_X9_tableau := zmet_mk (X := X_X9_tableau) (by decide) rfl rfl s_X9_tableau

abbrev X_X9_gram : zM := (RX9, cX9_gram, 4, (some .int), "gram")
noncomputable def bX9_gram_67 {d : Nat} (P : zP d) : zK d := (xiret P)
set_option maxRecDepth 100000 in
set_option maxHeartbeats 4000000 in
theorem sbX9_gram_67 {d : Nat} [zGh] (P : zP d) : zSim X_X9_gram 3 P 67 (bX9_gram_67 P) := by
  unfold bX9_gram_67
  exact sm_ireturn (pc := 67) dX9_gram_67 rfl
noncomputable def bX9_gram_64 {d : Nat} (P : zP d) (j67 : zK d) : zK d := (xpI 4294966295 j67)
set_option maxRecDepth 100000 in
set_option maxHeartbeats 4000000 in
theorem sbX9_gram_64 {d : Nat} [zGh] (P : zP d) (j67 : zK d) (hj67 : zSim X_X9_gram 3 P 67 j67) : zSim X_X9_gram 3 P 64 (bX9_gram_64 P j67) := by
  unfold bX9_gram_64
  refine sm_sipush (pc := 64) dX9_gram_64 zc_s_m1001 ?_
  exact hj67
noncomputable def cX9_gram_36 {d : Nat} (P : zP d) (j64 : zK d) (j67 : zK d) : zK d := (xbin zsub (xi2l (xcS 3 0 0 f_X9_isIn (xif0 t0eq j64 (xald 0 (xgfR 25 35 (xpI 256 (xild 1 (xbin zmul (xpI 16 (xild 2 (xbin zmul (xbin zadd (xild 3 (xbin zadd (xald1 0 j67))))))))))))))))
set_option maxRecDepth 100000 in
set_option maxHeartbeats 4000000 in
theorem scX9_gram_36 {d : Nat} [zGh] (P : zP d) (j64 : zK d) (j67 : zK d) (hj64 : zSim X_X9_gram 3 P 64 j64) (hj67 : zSim X_X9_gram 3 P 67 j67) : zSim X_X9_gram 3 P 36 (cX9_gram_36 P j64 j67) := by
  unfold cX9_gram_36
  refine sm_isub (pc := 36) dX9_gram_36 ?_
  refine sm_i2l (pc := 37) dX9_gram_37 ?_
  refine sm_cS (pc := 38) (n := 3) (mc := 0) (ms := 0) m_X9_isIn (cr_X9_283 (X := X_X9_gram) (fr := 3) (frc := 1) (pc := 38) (mc := 0) (ms := 0) rfl (by decide) dX9_gram_38) ?_
  refine sm_if_eq (pc := 41) (tgt := 64) dX9_gram_41 (by decide) ?_ ?_
  · skip
    exact hj64
  · skip
    refine sm_aload_n (pc := 44) (n := 0) dX9_gram_44 rfl ?_
    refine gf_X9_90 (pc := 45) rfl dX9_gram_45 ?_
    refine sm_sipush (pc := 48) dX9_gram_48 zc_s_256 ?_
    refine sm_iload_n (pc := 51) (n := 1) dX9_gram_51 rfl ?_
    refine sm_imul (pc := 52) dX9_gram_52 ?_
    refine sm_bipush (pc := 53) dX9_gram_53 zc_b_16 ?_
    refine sm_iload_n (pc := 55) (n := 2) dX9_gram_55 rfl ?_
    refine sm_imul (pc := 56) dX9_gram_56 ?_
    refine sm_iadd (pc := 57) dX9_gram_57 ?_
    refine sm_iload_n (pc := 58) (n := 3) dX9_gram_58 rfl ?_
    refine sm_iadd (pc := 59) dX9_gram_59 ?_
    refine sm_iaload (pc := 60) dX9_gram_60 ?_
    refine sm_goto (pc := 61) (tgt := 67) dX9_gram_61 (by decide) ?_
    exact hj67
noncomputable def b_X9_gram {d : Nat} (P : zP d) : zK d := (xald 0 (xild 1 (xcV 25 2 0 0 f_X9_isPart (xjoin (bX9_gram_67 P) (fun j67 => (xjoin (bX9_gram_64 P j67) (fun j64 => (xif0 t0eq j64 (xild 2 (xi2l (xpL 0 (xald 0 (xgfR 25 21 (xild 1 (xald1 0 (xpI 1 (xbin zsub (xi2l (xcS 3 0 0 f_X9_isIn (xif0 t0eq j64 (xild 3 (xi2l (xpL 0 (xald 0 (xgfR 25 21 (xild 1 (xald1 0 (xpI 1 (cX9_gram_36 P j64 j67)))))))))))))))))))))))))))))
set_option maxRecDepth 100000 in
set_option maxHeartbeats 4000000 in
theorem s_X9_gram {d : Nat} [zGh] (P : zP d) : zSim X_X9_gram 3 P 0 (b_X9_gram P) := by
  unfold b_X9_gram
  refine sm_aload_n (pc := 0) (n := 0) dX9_gram_0 rfl ?_
  refine sm_iload_n (pc := 1) (n := 1) dX9_gram_1 rfl ?_
  refine sm_cV (pc := 2) (ci := 9) (n := 2) (mc := 0) (ms := 0) rfl m_X9_isPart (cr_X9_287 (X := X_X9_gram) (fr := 3) (frc := 2) (pc := 2) (mc := 0) (ms := 0) rfl (by decide) dX9_gram_2) ?_
  refine sm_join (pc := 5) (pc' := 67) (sbX9_gram_67 P) (fun j67 hj67 => ?_)
  refine sm_join (pc := 5) (pc' := 64) (sbX9_gram_64 P j67 hj67) (fun j64 hj64 => ?_)
  refine sm_if_eq (pc := 5) (tgt := 64) dX9_gram_5 (by decide) ?_ ?_
  · skip
    exact hj64
  · skip
    refine sm_iload_n (pc := 8) (n := 2) dX9_gram_8 rfl ?_
    refine sm_i2l (pc := 9) dX9_gram_9 ?_
    refine sm_lconst (pc := 10) dX9_gram_10 zc_l_0 ?_
    refine sm_aload_n (pc := 11) (n := 0) dX9_gram_11 rfl ?_
    refine gf_X9_56 (pc := 12) rfl dX9_gram_12 ?_
    refine sm_iload_n (pc := 15) (n := 1) dX9_gram_15 rfl ?_
    refine sm_iaload (pc := 16) dX9_gram_16 ?_
    refine sm_iconst (pc := 17) dX9_gram_17 zc_i_1 ?_
    refine sm_isub (pc := 18) dX9_gram_18 ?_
    refine sm_i2l (pc := 19) dX9_gram_19 ?_
    refine sm_cS (pc := 20) (n := 3) (mc := 0) (ms := 0) m_X9_isIn (cr_X9_283 (X := X_X9_gram) (fr := 3) (frc := 1) (pc := 20) (mc := 0) (ms := 0) rfl (by decide) dX9_gram_20) ?_
    refine sm_if_eq (pc := 23) (tgt := 64) dX9_gram_23 (by decide) ?_ ?_
    · skip
      exact hj64
    · skip
      refine sm_iload_n (pc := 26) (n := 3) dX9_gram_26 rfl ?_
      refine sm_i2l (pc := 27) dX9_gram_27 ?_
      refine sm_lconst (pc := 28) dX9_gram_28 zc_l_0 ?_
      refine sm_aload_n (pc := 29) (n := 0) dX9_gram_29 rfl ?_
      refine gf_X9_56 (pc := 30) rfl dX9_gram_30 ?_
      refine sm_iload_n (pc := 33) (n := 1) dX9_gram_33 rfl ?_
      refine sm_iaload (pc := 34) dX9_gram_34 ?_
      refine sm_iconst (pc := 35) dX9_gram_35 zc_i_1 ?_
      exact scX9_gram_36 P j64 j67 hj64 hj67
noncomputable def f_X9_gram {d : Nat} : List zV → zH d → zP d → Bool := zfn 4 b_X9_gram
theorem m_X9_gram {d : Nat} : zMet (d := d) X_X9_gram yX9_gram 3 f_X9_gram := zmet_mk (X := X_X9_gram) (by decide) rfl rfl s_X9_gram
end
section
/-! the reference, by program -/
abbrev X_X9_membersOf : zM := (RX9, cX9_membersOf, 4, (some .int), "membersOf")
noncomputable def bX9_membersOf_44 {d : Nat} (P : zP d) (r4 : zK d) : zK d := (xinc 3 1 r4)
set_option maxRecDepth 100000 in
set_option maxHeartbeats 4000000 in
theorem sbX9_membersOf_44 {d : Nat} [zGh] (P : zP d) (r4 : zK d) (hr4 : zSim X_X9_membersOf 1 P 4 r4) : zSim X_X9_membersOf 1 P 44 (bX9_membersOf_44 P r4) := by
  unfold bX9_membersOf_44
  refine sm_iinc (pc := 44) (n := 3) dX9_membersOf_44 zc_i_1 ?_
  refine sm_goto (pc := 47) (tgt := 4) dX9_membersOf_47 (by decide) ?_
  exact hr4
noncomputable def lX9_membersOf_4 {d : Nat} (P : zP d) (r4 : zK d) : zK d := (xild 3 (xald 0 (xgfI 25 2 (xcmp tge (xild 2 (xiret P)) (xald 0 (xgfR 25 17 (xild 3 (xald1 0 (xild 1 (xjoin (bX9_membersOf_44 P r4) (fun j44 => (xcmp Nat.beq (xald 0 (xgfR 25 7 (xild 3 (xald1 1 (xif0 t0eq j44 (xald 0 (xgfR 25 42 (xild 2 (xild 3 (xast1 0 (fun v => v) (xinc 2 1 j44))))))))))) j44))))))))))))
set_option maxRecDepth 100000 in
set_option maxHeartbeats 4000000 in
theorem slX9_membersOf_4 {d : Nat} [zGh] (P : zP d) (r4 : zK d) (hr4 : zSim X_X9_membersOf 1 P 4 r4) : zSim X_X9_membersOf 1 P 4 (lX9_membersOf_4 P r4) := by
  unfold lX9_membersOf_4
  refine sm_iload_n (pc := 4) (n := 3) dX9_membersOf_4 rfl ?_
  refine sm_aload_n (pc := 5) (n := 0) dX9_membersOf_5 rfl ?_
  refine gf_X9_153 (pc := 6) rfl dX9_membersOf_6 ?_
  refine sm_icmp_ge (pc := 9) (tgt := 50) dX9_membersOf_9 (by decide) ?_ ?_
  · skip
    refine sm_iload_n (pc := 50) (n := 2) dX9_membersOf_50 rfl ?_
    exact sm_ireturn (pc := 51) dX9_membersOf_51 rfl
  · skip
    refine sm_aload_n (pc := 12) (n := 0) dX9_membersOf_12 rfl ?_
    refine gf_X9_47 (pc := 13) rfl dX9_membersOf_13 ?_
    refine sm_iload_n (pc := 16) (n := 3) dX9_membersOf_16 rfl ?_
    refine sm_iaload (pc := 17) dX9_membersOf_17 ?_
    refine sm_iload_n (pc := 18) (n := 1) dX9_membersOf_18 rfl ?_
    refine sm_join (pc := 19) (pc' := 44) (sbX9_membersOf_44 P r4 hr4) (fun j44 hj44 => ?_)
    refine sm_icmp_ne (pc := 19) (tgt := 44) dX9_membersOf_19 (by decide) ?_ ?_
    · skip
      exact hj44
    · skip
      refine sm_aload_n (pc := 22) (n := 0) dX9_membersOf_22 rfl ?_
      refine gf_X9_22 (pc := 23) rfl dX9_membersOf_23 ?_
      refine sm_iload_n (pc := 26) (n := 3) dX9_membersOf_26 rfl ?_
      refine sm_baload (pc := 27) dX9_membersOf_27 ?_
      refine sm_if_ne (pc := 28) (tgt := 34) dX9_membersOf_28 (by decide) ?_ ?_
      · skip
        refine sm_aload_n (pc := 34) (n := 0) dX9_membersOf_34 rfl ?_
        refine gf_X9_112 (pc := 35) rfl dX9_membersOf_35 ?_
        refine sm_iload_n (pc := 38) (n := 2) dX9_membersOf_38 rfl ?_
        refine sm_iload_n (pc := 39) (n := 3) dX9_membersOf_39 rfl ?_
        refine sm_iastore (pc := 40) dX9_membersOf_40 ?_
        refine sm_iinc (pc := 41) (n := 2) dX9_membersOf_41 zc_i_1 ?_
        exact hj44
      · skip
        refine sm_goto (pc := 31) (tgt := 44) dX9_membersOf_31 (by decide) ?_
        exact hj44
noncomputable def b_X9_membersOf {d : Nat} (P : zP d) : zK d := (xpI 0 (xist 2 (xpI 0 (xist 3 (xloop (fun r4 => (lX9_membersOf_4 P r4)) 100000)))))
set_option maxRecDepth 100000 in
set_option maxHeartbeats 4000000 in
theorem s_X9_membersOf {d : Nat} [zGh] (P : zP d) : zSim X_X9_membersOf 1 P 0 (b_X9_membersOf P) := by
  unfold b_X9_membersOf
  refine sm_iconst (pc := 0) dX9_membersOf_0 zc_i_0 ?_
  refine sm_istore_n (pc := 1) (n := 2) dX9_membersOf_1 rfl ?_
  refine sm_iconst (pc := 2) dX9_membersOf_2 zc_i_0 ?_
  refine sm_istore_n (pc := 3) (n := 3) dX9_membersOf_3 rfl ?_
  exact sm_loop (fun r4 hr4 => slX9_membersOf_4 P r4 hr4) _
noncomputable def f_X9_membersOf {d : Nat} : List zV → zH d → zP d → Bool := zfn 4 b_X9_membersOf
theorem m_X9_membersOf {d : Nat} : zMet (d := d) X_X9_membersOf yX9_membersOf 1 f_X9_membersOf := zmet_mk (X := X_X9_membersOf) (by decide) rfl rfl s_X9_membersOf

abbrev X_X9_determinant : zM := (RX9, cX9_determinant, 10, (some .long), "determinant")
noncomputable def bX9_determinant_301 {d : Nat} (P : zP d) : zK d := (xlret P)
set_option maxRecDepth 100000 in
set_option maxHeartbeats 4000000 in
theorem sbX9_determinant_301 {d : Nat} [zGh] (P : zP d) : zSim X_X9_determinant 1 P 301 (bX9_determinant_301 P) := by
  unfold bX9_determinant_301
  exact sm_lreturn (pc := 301) dX9_determinant_301 rfl
noncomputable def cX9_determinant_242 {d : Nat} (P : zP d) (r166 : zK d) : zK d := (xinc 8 1 r166)
set_option maxRecDepth 100000 in
set_option maxHeartbeats 4000000 in
theorem scX9_determinant_242 {d : Nat} [zGh] (P : zP d) (r166 : zK d) (hr166 : zSim X_X9_determinant 1 P 166 r166) : zSim X_X9_determinant 1 P 242 (cX9_determinant_242 P r166) := by
  unfold cX9_determinant_242
  refine sm_iinc (pc := 242) (n := 8) dX9_determinant_242 zc_i_1 ?_
  refine sm_goto (pc := 245) (tgt := 166) dX9_determinant_245 (by decide) ?_
  exact hr166
noncomputable def cX9_determinant_208 {d : Nat} (P : zP d) (r166 : zK d) : zK d := (xbin zadd (xlal (xbinj zmulj (xald 0 (xgfR 25 41 (xpI 11 (xild 7 (xbin zmul (xild 5 (xbin zadd (xlal (xald 0 (xgfR 25 41 (xpI 11 (xild 5 (xbin zmul (xild 8 (xbin zadd (xlal (xbinj zmulj (xbinj zsubj (xlld 2 (xbinjN zdivj (xlas (cX9_determinant_242 P r166)))))))))))))))))))))))))
set_option maxRecDepth 100000 in
set_option maxHeartbeats 4000000 in
theorem scX9_determinant_208 {d : Nat} [zGh] (P : zP d) (r166 : zK d) (hr166 : zSim X_X9_determinant 1 P 166 r166) : zSim X_X9_determinant 1 P 208 (cX9_determinant_208 P r166) := by
  unfold cX9_determinant_208
  refine sm_iadd (pc := 208) dX9_determinant_208 ?_
  refine sm_laload (pc := 209) dX9_determinant_209 ?_
  refine sm_lmul (pc := 210) dX9_determinant_210 ?_
  refine sm_aload_n (pc := 211) (n := 0) dX9_determinant_211 rfl ?_
  refine gf_X9_108 (pc := 212) rfl dX9_determinant_212 ?_
  refine sm_bipush (pc := 215) dX9_determinant_215 zc_b_11 ?_
  refine sm_iload (pc := 217) (n := 7) dX9_determinant_217 ?_
  refine sm_imul (pc := 219) dX9_determinant_219 ?_
  refine sm_iload (pc := 220) (n := 5) dX9_determinant_220 ?_
  refine sm_iadd (pc := 222) dX9_determinant_222 ?_
  refine sm_laload (pc := 223) dX9_determinant_223 ?_
  refine sm_aload_n (pc := 224) (n := 0) dX9_determinant_224 rfl ?_
  refine gf_X9_108 (pc := 225) rfl dX9_determinant_225 ?_
  refine sm_bipush (pc := 228) dX9_determinant_228 zc_b_11 ?_
  refine sm_iload (pc := 230) (n := 5) dX9_determinant_230 ?_
  refine sm_imul (pc := 232) dX9_determinant_232 ?_
  refine sm_iload (pc := 233) (n := 8) dX9_determinant_233 ?_
  refine sm_iadd (pc := 235) dX9_determinant_235 ?_
  refine sm_laload (pc := 236) dX9_determinant_236 ?_
  refine sm_lmul (pc := 237) dX9_determinant_237 ?_
  refine sm_lsub (pc := 238) dX9_determinant_238 ?_
  refine sm_lload_n (pc := 239) (n := 2) dX9_determinant_239 rfl ?_
  refine sm_ldiv (pc := 240) dX9_determinant_240 ?_
  refine sm_lastore (pc := 241) dX9_determinant_241 ?_
  exact scX9_determinant_242 P r166 hr166
noncomputable def lX9_determinant_166 {d : Nat} (P : zP d) (r154 : zK d) (r166 : zK d) : zK d := (xild 8 (xild 1 (xcmp tge (xinc 7 1 r154) (xald 0 (xgfR 25 41 (xpI 11 (xild 7 (xbin zmul (xild 8 (xbin zadd (xald 0 (xgfR 25 41 (xpI 11 (xild 7 (xbin zmul (xild 8 (xbin zadd (xlal (xald 0 (xgfR 25 41 (xpI 11 (xild 5 (xbin zmul (xild 5 (cX9_determinant_208 P r166)))))))))))))))))))))))))
set_option maxRecDepth 100000 in
set_option maxHeartbeats 4000000 in
theorem slX9_determinant_166 {d : Nat} [zGh] (P : zP d) (r154 : zK d) (r166 : zK d) (hr154 : zSim X_X9_determinant 1 P 154 r154) (hr166 : zSim X_X9_determinant 1 P 166 r166) : zSim X_X9_determinant 1 P 166 (lX9_determinant_166 P r154 r166) := by
  unfold lX9_determinant_166
  refine sm_iload (pc := 166) (n := 8) dX9_determinant_166 ?_
  refine sm_iload_n (pc := 168) (n := 1) dX9_determinant_168 rfl ?_
  refine sm_icmp_ge (pc := 169) (tgt := 248) dX9_determinant_169 (by decide) ?_ ?_
  · skip
    refine sm_iinc (pc := 248) (n := 7) dX9_determinant_248 zc_i_1 ?_
    refine sm_goto (pc := 251) (tgt := 154) dX9_determinant_251 (by decide) ?_
    exact hr154
  · skip
    refine sm_aload_n (pc := 172) (n := 0) dX9_determinant_172 rfl ?_
    refine gf_X9_108 (pc := 173) rfl dX9_determinant_173 ?_
    refine sm_bipush (pc := 176) dX9_determinant_176 zc_b_11 ?_
    refine sm_iload (pc := 178) (n := 7) dX9_determinant_178 ?_
    refine sm_imul (pc := 180) dX9_determinant_180 ?_
    refine sm_iload (pc := 181) (n := 8) dX9_determinant_181 ?_
    refine sm_iadd (pc := 183) dX9_determinant_183 ?_
    refine sm_aload_n (pc := 184) (n := 0) dX9_determinant_184 rfl ?_
    refine gf_X9_108 (pc := 185) rfl dX9_determinant_185 ?_
    refine sm_bipush (pc := 188) dX9_determinant_188 zc_b_11 ?_
    refine sm_iload (pc := 190) (n := 7) dX9_determinant_190 ?_
    refine sm_imul (pc := 192) dX9_determinant_192 ?_
    refine sm_iload (pc := 193) (n := 8) dX9_determinant_193 ?_
    refine sm_iadd (pc := 195) dX9_determinant_195 ?_
    refine sm_laload (pc := 196) dX9_determinant_196 ?_
    refine sm_aload_n (pc := 197) (n := 0) dX9_determinant_197 rfl ?_
    refine gf_X9_108 (pc := 198) rfl dX9_determinant_198 ?_
    refine sm_bipush (pc := 201) dX9_determinant_201 zc_b_11 ?_
    refine sm_iload (pc := 203) (n := 5) dX9_determinant_203 ?_
    refine sm_imul (pc := 205) dX9_determinant_205 ?_
    refine sm_iload (pc := 206) (n := 5) dX9_determinant_206 ?_
    exact scX9_determinant_208 P r166 hr166
noncomputable def lX9_determinant_154 {d : Nat} (P : zP d) (r154 : zK d) (r8 : zK d) : zK d := (xild 7 (xild 1 (xcmp tge (xald 0 (xgfR 25 41 (xpI 11 (xild 5 (xbin zmul (xild 5 (xbin zadd (xlal (xlst 2 (xinc 5 1 r8)))))))))) (xild 5 (xpI 1 (xbin zadd (xist 8 (xloop (fun r166 => (lX9_determinant_166 P r154 r166)) 100000))))))))
set_option maxRecDepth 100000 in
set_option maxHeartbeats 4000000 in
theorem slX9_determinant_154 {d : Nat} [zGh] (P : zP d) (r154 : zK d) (r8 : zK d) (hr154 : zSim X_X9_determinant 1 P 154 r154) (hr8 : zSim X_X9_determinant 1 P 8 r8) : zSim X_X9_determinant 1 P 154 (lX9_determinant_154 P r154 r8) := by
  unfold lX9_determinant_154
  refine sm_iload (pc := 154) (n := 7) dX9_determinant_154 ?_
  refine sm_iload_n (pc := 156) (n := 1) dX9_determinant_156 rfl ?_
  refine sm_icmp_ge (pc := 157) (tgt := 254) dX9_determinant_157 (by decide) ?_ ?_
  · skip
    refine sm_aload_n (pc := 254) (n := 0) dX9_determinant_254 rfl ?_
    refine gf_X9_108 (pc := 255) rfl dX9_determinant_255 ?_
    refine sm_bipush (pc := 258) dX9_determinant_258 zc_b_11 ?_
    refine sm_iload (pc := 260) (n := 5) dX9_determinant_260 ?_
    refine sm_imul (pc := 262) dX9_determinant_262 ?_
    refine sm_iload (pc := 263) (n := 5) dX9_determinant_263 ?_
    refine sm_iadd (pc := 265) dX9_determinant_265 ?_
    refine sm_laload (pc := 266) dX9_determinant_266 ?_
    refine sm_lstore_n (pc := 267) (n := 2) dX9_determinant_267 rfl ?_
    refine sm_iinc (pc := 268) (n := 5) dX9_determinant_268 zc_i_1 ?_
    refine sm_goto (pc := 271) (tgt := 8) dX9_determinant_271 (by decide) ?_
    exact hr8
  · skip
    refine sm_iload (pc := 160) (n := 5) dX9_determinant_160 ?_
    refine sm_iconst (pc := 162) dX9_determinant_162 zc_i_1 ?_
    refine sm_iadd (pc := 163) dX9_determinant_163 ?_
    refine sm_istore (pc := 164) (n := 8) dX9_determinant_164 ?_
    exact sm_loop (fun r166 hr166 => slX9_determinant_166 P r154 r166 hr154 hr166) _
noncomputable def bX9_determinant_148 {d : Nat} (P : zP d) (r8 : zK d) : zK d := (xild 5 (xpI 1 (xbin zadd (xist 7 (xloop (fun r154 => (lX9_determinant_154 P r154 r8)) 100000)))))
set_option maxRecDepth 100000 in
set_option maxHeartbeats 4000000 in
theorem sbX9_determinant_148 {d : Nat} [zGh] (P : zP d) (r8 : zK d) (hr8 : zSim X_X9_determinant 1 P 8 r8) : zSim X_X9_determinant 1 P 148 (bX9_determinant_148 P r8) := by
  unfold bX9_determinant_148
  refine sm_iload (pc := 148) (n := 5) dX9_determinant_148 ?_
  refine sm_iconst (pc := 150) dX9_determinant_150 zc_i_1 ?_
  refine sm_iadd (pc := 151) dX9_determinant_151 ?_
  refine sm_istore (pc := 152) (n := 7) dX9_determinant_152 ?_
  exact sm_loop (fun r154 hr154 => slX9_determinant_154 P r154 r8 hr154 hr8) _
noncomputable def bX9_determinant_136 {d : Nat} (P : zP d) (r8 : zK d) : zK d := (xild 6 (xild 5 (xjoin (bX9_determinant_148 P r8) (fun j148 => (xcmp Nat.beq j148 (xild 4 (xun zneg (xist 4 j148))))))))
set_option maxRecDepth 100000 in
set_option maxHeartbeats 4000000 in
theorem sbX9_determinant_136 {d : Nat} [zGh] (P : zP d) (r8 : zK d) (hr8 : zSim X_X9_determinant 1 P 8 r8) : zSim X_X9_determinant 1 P 136 (bX9_determinant_136 P r8) := by
  unfold bX9_determinant_136
  refine sm_iload (pc := 136) (n := 6) dX9_determinant_136 ?_
  refine sm_iload (pc := 138) (n := 5) dX9_determinant_138 ?_
  refine sm_join (pc := 140) (pc' := 148) (sbX9_determinant_148 P r8 hr8) (fun j148 hj148 => ?_)
  refine sm_icmp_eq (pc := 140) (tgt := 148) dX9_determinant_140 (by decide) ?_ ?_
  · skip
    exact hj148
  · skip
    refine sm_iload (pc := 143) (n := 4) dX9_determinant_143 ?_
    refine sm_ineg (pc := 145) dX9_determinant_145 ?_
    refine sm_istore (pc := 146) (n := 4) dX9_determinant_146 ?_
    exact hj148
noncomputable def cX9_determinant_105 {d : Nat} (P : zP d) (r61 : zK d) : zK d := (xpI 11 (xild 5 (xbin zmul (xild 7 (xbin zadd (xlal (xlas (xald 0 (xgfR 25 41 (xpI 11 (xild 5 (xbin zmul (xild 7 (xbin zadd (xlld 8 (xlas (xinc 7 1 r61)))))))))))))))))
set_option maxRecDepth 100000 in
set_option maxHeartbeats 4000000 in
theorem scX9_determinant_105 {d : Nat} [zGh] (P : zP d) (r61 : zK d) (hr61 : zSim X_X9_determinant 1 P 61 r61) : zSim X_X9_determinant 1 P 105 (cX9_determinant_105 P r61) := by
  unfold cX9_determinant_105
  refine sm_bipush (pc := 105) dX9_determinant_105 zc_b_11 ?_
  refine sm_iload (pc := 107) (n := 5) dX9_determinant_107 ?_
  refine sm_imul (pc := 109) dX9_determinant_109 ?_
  refine sm_iload (pc := 110) (n := 7) dX9_determinant_110 ?_
  refine sm_iadd (pc := 112) dX9_determinant_112 ?_
  refine sm_laload (pc := 113) dX9_determinant_113 ?_
  refine sm_lastore (pc := 114) dX9_determinant_114 ?_
  refine sm_aload_n (pc := 115) (n := 0) dX9_determinant_115 rfl ?_
  refine gf_X9_108 (pc := 116) rfl dX9_determinant_116 ?_
  refine sm_bipush (pc := 119) dX9_determinant_119 zc_b_11 ?_
  refine sm_iload (pc := 121) (n := 5) dX9_determinant_121 ?_
  refine sm_imul (pc := 123) dX9_determinant_123 ?_
  refine sm_iload (pc := 124) (n := 7) dX9_determinant_124 ?_
  refine sm_iadd (pc := 126) dX9_determinant_126 ?_
  refine sm_lload (pc := 127) (n := 8) dX9_determinant_127 ?_
  refine sm_lastore (pc := 129) dX9_determinant_129 ?_
  refine sm_iinc (pc := 130) (n := 7) dX9_determinant_130 zc_i_1 ?_
  refine sm_goto (pc := 133) (tgt := 61) dX9_determinant_133 (by decide) ?_
  exact hr61
noncomputable def lX9_determinant_61 {d : Nat} (P : zP d) (r61 : zK d) (r8 : zK d) : zK d := (xild 7 (xild 1 (xjoin (bX9_determinant_136 P r8) (fun j136 => (xcmp tge j136 (xild 6 (xild 5 (xcmp Nat.beq j136 (xald 0 (xgfR 25 41 (xpI 11 (xild 6 (xbin zmul (xild 7 (xbin zadd (xlal (xlst 8 (xald 0 (xgfR 25 41 (xpI 11 (xild 6 (xbin zmul (xild 7 (xbin zadd (xald 0 (xgfR 25 41 (cX9_determinant_105 P r61)))))))))))))))))))))))))))
set_option maxRecDepth 100000 in
set_option maxHeartbeats 4000000 in
theorem slX9_determinant_61 {d : Nat} [zGh] (P : zP d) (r61 : zK d) (r8 : zK d) (hr61 : zSim X_X9_determinant 1 P 61 r61) (hr8 : zSim X_X9_determinant 1 P 8 r8) : zSim X_X9_determinant 1 P 61 (lX9_determinant_61 P r61 r8) := by
  unfold lX9_determinant_61
  refine sm_iload (pc := 61) (n := 7) dX9_determinant_61 ?_
  refine sm_iload_n (pc := 63) (n := 1) dX9_determinant_63 rfl ?_
  refine sm_join (pc := 64) (pc' := 136) (sbX9_determinant_136 P r8 hr8) (fun j136 hj136 => ?_)
  refine sm_icmp_ge (pc := 64) (tgt := 136) dX9_determinant_64 (by decide) ?_ ?_
  · skip
    exact hj136
  · skip
    refine sm_iload (pc := 67) (n := 6) dX9_determinant_67 ?_
    refine sm_iload (pc := 69) (n := 5) dX9_determinant_69 ?_
    refine sm_icmp_eq (pc := 71) (tgt := 136) dX9_determinant_71 (by decide) ?_ ?_
    · skip
      exact hj136
    · skip
      refine sm_aload_n (pc := 74) (n := 0) dX9_determinant_74 rfl ?_
      refine gf_X9_108 (pc := 75) rfl dX9_determinant_75 ?_
      refine sm_bipush (pc := 78) dX9_determinant_78 zc_b_11 ?_
      refine sm_iload (pc := 80) (n := 6) dX9_determinant_80 ?_
      refine sm_imul (pc := 82) dX9_determinant_82 ?_
      refine sm_iload (pc := 83) (n := 7) dX9_determinant_83 ?_
      refine sm_iadd (pc := 85) dX9_determinant_85 ?_
      refine sm_laload (pc := 86) dX9_determinant_86 ?_
      refine sm_lstore (pc := 87) (n := 8) dX9_determinant_87 ?_
      refine sm_aload_n (pc := 89) (n := 0) dX9_determinant_89 rfl ?_
      refine gf_X9_108 (pc := 90) rfl dX9_determinant_90 ?_
      refine sm_bipush (pc := 93) dX9_determinant_93 zc_b_11 ?_
      refine sm_iload (pc := 95) (n := 6) dX9_determinant_95 ?_
      refine sm_imul (pc := 97) dX9_determinant_97 ?_
      refine sm_iload (pc := 98) (n := 7) dX9_determinant_98 ?_
      refine sm_iadd (pc := 100) dX9_determinant_100 ?_
      refine sm_aload_n (pc := 101) (n := 0) dX9_determinant_101 rfl ?_
      refine gf_X9_108 (pc := 102) rfl dX9_determinant_102 ?_
      exact scX9_determinant_105 P r61 hr61
noncomputable def bX9_determinant_50 {d : Nat} (P : zP d) (r8 : zK d) : zK d := (xild 6 (xild 1 (xcmp Nat.beq (xpL 0 (xlret P)) (xpI 0 (xist 7 (xloop (fun r61 => (lX9_determinant_61 P r61 r8)) 100000))))))
set_option maxRecDepth 100000 in
set_option maxHeartbeats 4000000 in
theorem sbX9_determinant_50 {d : Nat} [zGh] (P : zP d) (r8 : zK d) (hr8 : zSim X_X9_determinant 1 P 8 r8) : zSim X_X9_determinant 1 P 50 (bX9_determinant_50 P r8) := by
  unfold bX9_determinant_50
  refine sm_iload (pc := 50) (n := 6) dX9_determinant_50 ?_
  refine sm_iload_n (pc := 52) (n := 1) dX9_determinant_52 rfl ?_
  refine sm_icmp_ne (pc := 53) (tgt := 58) dX9_determinant_53 (by decide) ?_ ?_
  · skip
    refine sm_iconst (pc := 58) dX9_determinant_58 zc_i_0 ?_
    refine sm_istore (pc := 59) (n := 7) dX9_determinant_59 ?_
    exact sm_loop (fun r61 hr61 => slX9_determinant_61 P r61 r8 hr61 hr8) _
  · skip
    refine sm_lconst (pc := 56) dX9_determinant_56 zc_l_0 ?_
    exact sm_lreturn (pc := 57) dX9_determinant_57 rfl
noncomputable def lX9_determinant_20 {d : Nat} (P : zP d) (r20 : zK d) (r8 : zK d) : zK d := (xild 6 (xild 1 (xjoin (bX9_determinant_50 P r8) (fun j50 => (xcmp tge j50 (xald 0 (xgfR 25 41 (xpI 11 (xild 6 (xbin zmul (xild 5 (xbin zadd (xlal (xpL 0 (xlcmp (xif0 t0eq (xinc 6 1 r20) j50))))))))))))))))
set_option maxRecDepth 100000 in
set_option maxHeartbeats 4000000 in
theorem slX9_determinant_20 {d : Nat} [zGh] (P : zP d) (r20 : zK d) (r8 : zK d) (hr20 : zSim X_X9_determinant 1 P 20 r20) (hr8 : zSim X_X9_determinant 1 P 8 r8) : zSim X_X9_determinant 1 P 20 (lX9_determinant_20 P r20 r8) := by
  unfold lX9_determinant_20
  refine sm_iload (pc := 20) (n := 6) dX9_determinant_20 ?_
  refine sm_iload_n (pc := 22) (n := 1) dX9_determinant_22 rfl ?_
  refine sm_join (pc := 23) (pc' := 50) (sbX9_determinant_50 P r8 hr8) (fun j50 hj50 => ?_)
  refine sm_icmp_ge (pc := 23) (tgt := 50) dX9_determinant_23 (by decide) ?_ ?_
  · skip
    exact hj50
  · skip
    refine sm_aload_n (pc := 26) (n := 0) dX9_determinant_26 rfl ?_
    refine gf_X9_108 (pc := 27) rfl dX9_determinant_27 ?_
    refine sm_bipush (pc := 30) dX9_determinant_30 zc_b_11 ?_
    refine sm_iload (pc := 32) (n := 6) dX9_determinant_32 ?_
    refine sm_imul (pc := 34) dX9_determinant_34 ?_
    refine sm_iload (pc := 35) (n := 5) dX9_determinant_35 ?_
    refine sm_iadd (pc := 37) dX9_determinant_37 ?_
    refine sm_laload (pc := 38) dX9_determinant_38 ?_
    refine sm_lconst (pc := 39) dX9_determinant_39 zc_l_0 ?_
    refine sm_lcmp (pc := 40) dX9_determinant_40 ?_
    refine sm_if_ne (pc := 41) (tgt := 50) dX9_determinant_41 (by decide) ?_ ?_
    · skip
      exact hj50
    · skip
      refine sm_iinc (pc := 44) (n := 6) dX9_determinant_44 zc_i_1 ?_
      refine sm_goto (pc := 47) (tgt := 20) dX9_determinant_47 (by decide) ?_
      exact hr20
noncomputable def lX9_determinant_8 {d : Nat} (P : zP d) (r8 : zK d) : zK d := (xild 5 (xild 1 (xpI 1 (xbin zsub (xcmp tge (xild 1 (xjoin (bX9_determinant_301 P) (fun j301 => (xif0 t0eq (xpL 1 j301) (xild 4 (xi2l (xald 0 (xgfR 25 41 (xpI 11 (xild 1 (xpI 1 (xbin zsub (xbin zmul (xild 1 (xbin zadd (xpI 1 (xbin zsub (xlal (xbinj zmulj j301))))))))))))))))))) (xild 5 (xist 6 (xloop (fun r20 => (lX9_determinant_20 P r20 r8)) 100000))))))))
set_option maxRecDepth 100000 in
set_option maxHeartbeats 4000000 in
theorem slX9_determinant_8 {d : Nat} [zGh] (P : zP d) (r8 : zK d) (hr8 : zSim X_X9_determinant 1 P 8 r8) : zSim X_X9_determinant 1 P 8 (lX9_determinant_8 P r8) := by
  unfold lX9_determinant_8
  refine sm_iload (pc := 8) (n := 5) dX9_determinant_8 ?_
  refine sm_iload_n (pc := 10) (n := 1) dX9_determinant_10 rfl ?_
  refine sm_iconst (pc := 11) dX9_determinant_11 zc_i_1 ?_
  refine sm_isub (pc := 12) dX9_determinant_12 ?_
  refine sm_icmp_ge (pc := 13) (tgt := 274) dX9_determinant_13 (by decide) ?_ ?_
  · skip
    refine sm_iload_n (pc := 274) (n := 1) dX9_determinant_274 rfl ?_
    refine sm_join (pc := 275) (pc' := 301) (sbX9_determinant_301 P) (fun j301 hj301 => ?_)
    refine sm_if_ne (pc := 275) (tgt := 282) dX9_determinant_275 (by decide) ?_ ?_
    · skip
      refine sm_iload (pc := 282) (n := 4) dX9_determinant_282 ?_
      refine sm_i2l (pc := 284) dX9_determinant_284 ?_
      refine sm_aload_n (pc := 285) (n := 0) dX9_determinant_285 rfl ?_
      refine gf_X9_108 (pc := 286) rfl dX9_determinant_286 ?_
      refine sm_bipush (pc := 289) dX9_determinant_289 zc_b_11 ?_
      refine sm_iload_n (pc := 291) (n := 1) dX9_determinant_291 rfl ?_
      refine sm_iconst (pc := 292) dX9_determinant_292 zc_i_1 ?_
      refine sm_isub (pc := 293) dX9_determinant_293 ?_
      refine sm_imul (pc := 294) dX9_determinant_294 ?_
      refine sm_iload_n (pc := 295) (n := 1) dX9_determinant_295 rfl ?_
      refine sm_iadd (pc := 296) dX9_determinant_296 ?_
      refine sm_iconst (pc := 297) dX9_determinant_297 zc_i_1 ?_
      refine sm_isub (pc := 298) dX9_determinant_298 ?_
      refine sm_laload (pc := 299) dX9_determinant_299 ?_
      refine sm_lmul (pc := 300) dX9_determinant_300 ?_
      exact hj301
    · skip
      refine sm_lconst (pc := 278) dX9_determinant_278 zc_l_1 ?_
      refine sm_goto (pc := 279) (tgt := 301) dX9_determinant_279 (by decide) ?_
      exact hj301
  · skip
    refine sm_iload (pc := 16) (n := 5) dX9_determinant_16 ?_
    refine sm_istore (pc := 18) (n := 6) dX9_determinant_18 ?_
    exact sm_loop (fun r20 hr20 => slX9_determinant_20 P r20 r8 hr20 hr8) _
noncomputable def b_X9_determinant {d : Nat} (P : zP d) : zK d := (xpL 1 (xlst 2 (xpI 1 (xist 4 (xpI 0 (xist 5 (xloop (fun r8 => (lX9_determinant_8 P r8)) 100000)))))))
set_option maxRecDepth 100000 in
set_option maxHeartbeats 4000000 in
theorem s_X9_determinant {d : Nat} [zGh] (P : zP d) : zSim X_X9_determinant 1 P 0 (b_X9_determinant P) := by
  unfold b_X9_determinant
  refine sm_lconst (pc := 0) dX9_determinant_0 zc_l_1 ?_
  refine sm_lstore_n (pc := 1) (n := 2) dX9_determinant_1 rfl ?_
  refine sm_iconst (pc := 2) dX9_determinant_2 zc_i_1 ?_
  refine sm_istore (pc := 3) (n := 4) dX9_determinant_3 ?_
  refine sm_iconst (pc := 5) dX9_determinant_5 zc_i_0 ?_
  refine sm_istore (pc := 6) (n := 5) dX9_determinant_6 ?_
  exact sm_loop (fun r8 hr8 => slX9_determinant_8 P r8 hr8) _
noncomputable def f_X9_determinant {d : Nat} : List zV → zH d → zP d → Bool := zfn 10 b_X9_determinant
theorem m_X9_determinant {d : Nat} : zMet (d := d) X_X9_determinant yX9_determinant 1 f_X9_determinant := zmet_mk (X := X_X9_determinant) (by decide) rfl rfl s_X9_determinant

abbrev X_X9_defect : zM := (RX9, cX9_defect, 5, (some .int), "defect")
noncomputable def lX9_defect_17 {d : Nat} (P : zP d) (r17 : zK d) (r4 : zK d) : zK d := (xild 4 (xald 0 (xgfI 25 1 (xbinN zrem (xif0 t0eq (xinc 2 1 (xild 4 (xald 0 (xgfI 25 1 (xbinN zdiv (xist 4 r17)))))) (xinc 3 1 r4))))))
set_option maxRecDepth 100000 in
set_option maxHeartbeats 4000000 in
theorem slX9_defect_17 {d : Nat} [zGh] (P : zP d) (r17 : zK d) (r4 : zK d) (hr17 : zSim X_X9_defect 1 P 17 r17) (hr4 : zSim X_X9_defect 1 P 4 r4) : zSim X_X9_defect 1 P 17 (lX9_defect_17 P r17 r4) := by
  unfold lX9_defect_17
  refine sm_iload (pc := 17) (n := 4) dX9_defect_17 ?_
  refine sm_aload_n (pc := 19) (n := 0) dX9_defect_19 rfl ?_
  refine gf_X9_184 (pc := 20) rfl dX9_defect_20 ?_
  refine sm_irem (pc := 23) dX9_defect_23 ?_
  refine sm_if_ne (pc := 24) (tgt := 42) dX9_defect_24 (by decide) ?_ ?_
  · skip
    refine sm_iinc (pc := 42) (n := 3) dX9_defect_42 zc_i_1 ?_
    refine sm_goto (pc := 45) (tgt := 4) dX9_defect_45 (by decide) ?_
    exact hr4
  · skip
    refine sm_iinc (pc := 27) (n := 2) dX9_defect_27 zc_i_1 ?_
    refine sm_iload (pc := 30) (n := 4) dX9_defect_30 ?_
    refine sm_aload_n (pc := 32) (n := 0) dX9_defect_32 rfl ?_
    refine gf_X9_184 (pc := 33) rfl dX9_defect_33 ?_
    refine sm_idiv (pc := 36) dX9_defect_36 ?_
    refine sm_istore (pc := 37) (n := 4) dX9_defect_37 ?_
    refine sm_goto (pc := 39) (tgt := 17) dX9_defect_39 (by decide) ?_
    exact hr17
noncomputable def lX9_defect_4 {d : Nat} (P : zP d) (r4 : zK d) : zK d := (xild 3 (xald 0 (xgfI 25 1 (xild 1 (xbin zmul (xcmp tle (xild 3 (xist 4 (xloop (fun r17 => (lX9_defect_17 P r17 r4)) 100000))) (xild 2 (xiret P))))))))
set_option maxRecDepth 100000 in
set_option maxHeartbeats 4000000 in
theorem slX9_defect_4 {d : Nat} [zGh] (P : zP d) (r4 : zK d) (hr4 : zSim X_X9_defect 1 P 4 r4) : zSim X_X9_defect 1 P 4 (lX9_defect_4 P r4) := by
  unfold lX9_defect_4
  refine sm_iload_n (pc := 4) (n := 3) dX9_defect_4 rfl ?_
  refine sm_aload_n (pc := 5) (n := 0) dX9_defect_5 rfl ?_
  refine gf_X9_184 (pc := 6) rfl dX9_defect_6 ?_
  refine sm_iload_n (pc := 9) (n := 1) dX9_defect_9 rfl ?_
  refine sm_imul (pc := 10) dX9_defect_10 ?_
  refine sm_icmp_gt (pc := 11) (tgt := 48) dX9_defect_11 (by decide) ?_ ?_
  · skip
    refine sm_iload_n (pc := 48) (n := 2) dX9_defect_48 rfl ?_
    exact sm_ireturn (pc := 49) dX9_defect_49 rfl
  · skip
    refine sm_iload_n (pc := 14) (n := 3) dX9_defect_14 rfl ?_
    refine sm_istore (pc := 15) (n := 4) dX9_defect_15 ?_
    exact sm_loop (fun r17 hr17 => slX9_defect_17 P r17 r4 hr17 hr4) _
noncomputable def b_X9_defect {d : Nat} (P : zP d) : zK d := (xpI 0 (xist 2 (xpI 1 (xist 3 (xloop (fun r4 => (lX9_defect_4 P r4)) 100000)))))
set_option maxRecDepth 100000 in
set_option maxHeartbeats 4000000 in
theorem s_X9_defect {d : Nat} [zGh] (P : zP d) : zSim X_X9_defect 1 P 0 (b_X9_defect P) := by
  unfold b_X9_defect
  refine sm_iconst (pc := 0) dX9_defect_0 zc_i_0 ?_
  refine sm_istore_n (pc := 1) (n := 2) dX9_defect_1 rfl ?_
  refine sm_iconst (pc := 2) dX9_defect_2 zc_i_1 ?_
  refine sm_istore_n (pc := 3) (n := 3) dX9_defect_3 rfl ?_
  exact sm_loop (fun r4 hr4 => slX9_defect_4 P r4 hr4) _
noncomputable def f_X9_defect {d : Nat} : List zV → zH d → zP d → Bool := zfn 5 b_X9_defect
theorem m_X9_defect {d : Nat} : zMet (d := d) X_X9_defect yX9_defect 1 f_X9_defect := zmet_mk (X := X_X9_defect) (by decide) rfl rfl s_X9_defect

abbrev X_X9_block : zM := (RX9, cX9_block, 7, (some .int), "block")
noncomputable def bX9_block_229 {d : Nat} (P : zP d) : zK d := (xpI 4294967295 (xiret P))
set_option maxRecDepth 100000 in
set_option maxHeartbeats 4000000 in
theorem sbX9_block_229 {d : Nat} [zGh] (P : zP d) : zSim X_X9_block 2 P 229 (bX9_block_229 P) := by
  unfold bX9_block_229
  refine sm_iconst (pc := 229) dX9_block_229 zc_i_m1 ?_
  exact sm_ireturn (pc := 230) dX9_block_230 rfl
noncomputable def bX9_block_120 {d : Nat} (P : zP d) : zK d := (xild 4 (xiret P))
set_option maxRecDepth 100000 in
set_option maxHeartbeats 4000000 in
theorem sbX9_block_120 {d : Nat} [zGh] (P : zP d) : zSim X_X9_block 2 P 120 (bX9_block_120 P) := by
  unfold bX9_block_120
  refine sm_iload (pc := 120) (n := 4) dX9_block_120 ?_
  exact sm_ireturn (pc := 122) dX9_block_122 rfl
noncomputable def bX9_block_123 {d : Nat} (P : zP d) : zK d := (xild 3 (xiret P))
set_option maxRecDepth 100000 in
set_option maxHeartbeats 4000000 in
theorem sbX9_block_123 {d : Nat} [zGh] (P : zP d) : zSim X_X9_block 2 P 123 (bX9_block_123 P) := by
  unfold bX9_block_123
  refine sm_iload_n (pc := 123) (n := 3) dX9_block_123 rfl ?_
  exact sm_ireturn (pc := 124) dX9_block_124 rfl
noncomputable def bX9_block_125 {d : Nat} (P : zP d) : zK d := (xald 0 (xgfR 25 15 (xald 0 (xgfR 25 19 (xild 1 (xald1 0 (xald1 0 (xiret P))))))))
set_option maxRecDepth 100000 in
set_option maxHeartbeats 4000000 in
theorem sbX9_block_125 {d : Nat} [zGh] (P : zP d) : zSim X_X9_block 2 P 125 (bX9_block_125 P) := by
  unfold bX9_block_125
  refine sm_aload_n (pc := 125) (n := 0) dX9_block_125 rfl ?_
  refine gf_X9_41 (pc := 126) rfl dX9_block_126 ?_
  refine sm_aload_n (pc := 129) (n := 0) dX9_block_129 rfl ?_
  refine gf_X9_50 (pc := 130) rfl dX9_block_130 ?_
  refine sm_iload_n (pc := 133) (n := 1) dX9_block_133 rfl ?_
  refine sm_iaload (pc := 134) dX9_block_134 ?_
  refine sm_iaload (pc := 135) dX9_block_135 ?_
  exact sm_ireturn (pc := 136) dX9_block_136 rfl
noncomputable def bX9_block_137 {d : Nat} (P : zP d) : zK d := (xald 0 (xald 0 (xgfR 25 15 (xald 0 (xgfR 25 19 (xild 1 (xald1 0 (xald1 0 (xcV 25 2 0 0 f_X9_defect (xiret P))))))))))
set_option maxRecDepth 100000 in
set_option maxHeartbeats 4000000 in
theorem sbX9_block_137 {d : Nat} [zGh] (P : zP d) : zSim X_X9_block 2 P 137 (bX9_block_137 P) := by
  unfold bX9_block_137
  refine sm_aload_n (pc := 137) (n := 0) dX9_block_137 rfl ?_
  refine sm_aload_n (pc := 138) (n := 0) dX9_block_138 rfl ?_
  refine gf_X9_41 (pc := 139) rfl dX9_block_139 ?_
  refine sm_aload_n (pc := 142) (n := 0) dX9_block_142 rfl ?_
  refine gf_X9_50 (pc := 143) rfl dX9_block_143 ?_
  refine sm_iload_n (pc := 146) (n := 1) dX9_block_146 rfl ?_
  refine sm_iaload (pc := 147) dX9_block_147 ?_
  refine sm_iaload (pc := 148) dX9_block_148 ?_
  refine sm_cV (pc := 149) (ci := 9) (n := 2) (mc := 0) (ms := 0) rfl m_X9_defect (cr_X9_312 (X := X_X9_block) (fr := 2) (frc := 1) (pc := 149) (mc := 0) (ms := 0) rfl (by decide) dX9_block_149) ?_
  exact sm_ireturn (pc := 152) dX9_block_152 rfl
noncomputable def bX9_block_153 {d : Nat} (P : zP d) : zK d := (xald 0 (xgfR 25 19 (xild 1 (xald1 0 (xiret P)))))
set_option maxRecDepth 100000 in
set_option maxHeartbeats 4000000 in
theorem sbX9_block_153 {d : Nat} [zGh] (P : zP d) : zSim X_X9_block 2 P 153 (bX9_block_153 P) := by
  unfold bX9_block_153
  refine sm_aload_n (pc := 153) (n := 0) dX9_block_153 rfl ?_
  refine gf_X9_50 (pc := 154) rfl dX9_block_154 ?_
  refine sm_iload_n (pc := 157) (n := 1) dX9_block_157 rfl ?_
  refine sm_iaload (pc := 158) dX9_block_158 ?_
  exact sm_ireturn (pc := 159) dX9_block_159 rfl
noncomputable def lX9_block_172 {d : Nat} (P : zP d) (r163 : zK d) (r172 : zK d) : zK d := (xild 6 (xild 3 (xcmp tge (xinc 5 1 r163) (xald 0 (xgfR 25 41 (xpI 11 (xild 5 (xbin zmul (xild 6 (xbin zadd (xald 0 (xald 0 (xgfR 25 42 (xild 5 (xald1 0 (xald 0 (xgfR 25 42 (xild 6 (xald1 0 (xcV 25 3 0 0 f_X9_cartanOf (xi2l (xlas (xinc 6 1 r172)))))))))))))))))))))))
set_option maxRecDepth 100000 in
set_option maxHeartbeats 4000000 in
theorem slX9_block_172 {d : Nat} [zGh] (P : zP d) (r163 : zK d) (r172 : zK d) (hr163 : zSim X_X9_block 2 P 163 r163) (hr172 : zSim X_X9_block 2 P 172 r172) : zSim X_X9_block 2 P 172 (lX9_block_172 P r163 r172) := by
  unfold lX9_block_172
  refine sm_iload (pc := 172) (n := 6) dX9_block_172 ?_
  refine sm_iload_n (pc := 174) (n := 3) dX9_block_174 rfl ?_
  refine sm_icmp_ge (pc := 175) (tgt := 216) dX9_block_175 (by decide) ?_ ?_
  · skip
    refine sm_iinc (pc := 216) (n := 5) dX9_block_216 zc_i_1 ?_
    refine sm_goto (pc := 219) (tgt := 163) dX9_block_219 (by decide) ?_
    exact hr163
  · skip
    refine sm_aload_n (pc := 178) (n := 0) dX9_block_178 rfl ?_
    refine gf_X9_108 (pc := 179) rfl dX9_block_179 ?_
    refine sm_bipush (pc := 182) dX9_block_182 zc_b_11 ?_
    refine sm_iload (pc := 184) (n := 5) dX9_block_184 ?_
    refine sm_imul (pc := 186) dX9_block_186 ?_
    refine sm_iload (pc := 187) (n := 6) dX9_block_187 ?_
    refine sm_iadd (pc := 189) dX9_block_189 ?_
    refine sm_aload_n (pc := 190) (n := 0) dX9_block_190 rfl ?_
    refine sm_aload_n (pc := 191) (n := 0) dX9_block_191 rfl ?_
    refine gf_X9_112 (pc := 192) rfl dX9_block_192 ?_
    refine sm_iload (pc := 195) (n := 5) dX9_block_195 ?_
    refine sm_iaload (pc := 197) dX9_block_197 ?_
    refine sm_aload_n (pc := 198) (n := 0) dX9_block_198 rfl ?_
    refine gf_X9_112 (pc := 199) rfl dX9_block_199 ?_
    refine sm_iload (pc := 202) (n := 6) dX9_block_202 ?_
    refine sm_iaload (pc := 204) dX9_block_204 ?_
    refine sm_cV (pc := 205) (ci := 9) (n := 3) (mc := 0) (ms := 0) rfl m_X9_cartanOf (cr_X9_306 (X := X_X9_block) (fr := 2) (frc := 1) (pc := 205) (mc := 0) (ms := 0) rfl (by decide) dX9_block_205) ?_
    refine sm_i2l (pc := 208) dX9_block_208 ?_
    refine sm_lastore (pc := 209) dX9_block_209 ?_
    refine sm_iinc (pc := 210) (n := 6) dX9_block_210 zc_i_1 ?_
    refine sm_goto (pc := 213) (tgt := 172) dX9_block_213 (by decide) ?_
    exact hr172
noncomputable def lX9_block_163 {d : Nat} (P : zP d) (r163 : zK d) : zK d := (xild 5 (xild 3 (xcmp tge (xald 0 (xild 3 (xcV 25 2 0 0 f_X9_determinant (xl2i (xiret P))))) (xpI 0 (xist 6 (xloop (fun r172 => (lX9_block_172 P r163 r172)) 100000))))))
set_option maxRecDepth 100000 in
set_option maxHeartbeats 4000000 in
theorem slX9_block_163 {d : Nat} [zGh] (P : zP d) (r163 : zK d) (hr163 : zSim X_X9_block 2 P 163 r163) : zSim X_X9_block 2 P 163 (lX9_block_163 P r163) := by
  unfold lX9_block_163
  refine sm_iload (pc := 163) (n := 5) dX9_block_163 ?_
  refine sm_iload_n (pc := 165) (n := 3) dX9_block_165 rfl ?_
  refine sm_icmp_ge (pc := 166) (tgt := 222) dX9_block_166 (by decide) ?_ ?_
  · skip
    refine sm_aload_n (pc := 222) (n := 0) dX9_block_222 rfl ?_
    refine sm_iload_n (pc := 223) (n := 3) dX9_block_223 rfl ?_
    refine sm_cV (pc := 224) (ci := 9) (n := 2) (mc := 0) (ms := 0) rfl m_X9_determinant (cr_X9_315 (X := X_X9_block) (fr := 2) (frc := 1) (pc := 224) (mc := 0) (ms := 0) rfl (by decide) dX9_block_224) ?_
    refine sm_l2i (pc := 227) dX9_block_227 ?_
    exact sm_ireturn (pc := 228) dX9_block_228 rfl
  · skip
    refine sm_iconst (pc := 169) dX9_block_169 zc_i_0 ?_
    refine sm_istore (pc := 170) (n := 6) dX9_block_170 ?_
    exact sm_loop (fun r172 hr172 => slX9_block_172 P r163 r172 hr163 hr172) _
noncomputable def bX9_block_160 {d : Nat} (P : zP d) : zK d := (xpI 0 (xist 5 (xloop (fun r163 => (lX9_block_163 P r163)) 100000)))
set_option maxRecDepth 100000 in
set_option maxHeartbeats 4000000 in
theorem sbX9_block_160 {d : Nat} [zGh] (P : zP d) : zSim X_X9_block 2 P 160 (bX9_block_160 P) := by
  unfold bX9_block_160
  refine sm_iconst (pc := 160) dX9_block_160 zc_i_0 ?_
  refine sm_istore (pc := 161) (n := 5) dX9_block_161 ?_
  exact sm_loop (fun r163 hr163 => slX9_block_163 P r163 hr163) _
noncomputable def bX9_block_67 {d : Nat} (P : zP d) (r40 : zK d) : zK d := (xcS 1 0 0 f_X9_one (xbin zadd (xist 4 (xinc 5 1 r40))))
set_option maxRecDepth 100000 in
set_option maxHeartbeats 4000000 in
theorem sbX9_block_67 {d : Nat} [zGh] (P : zP d) (r40 : zK d) (hr40 : zSim X_X9_block 2 P 40 r40) : zSim X_X9_block 2 P 67 (bX9_block_67 P r40) := by
  unfold bX9_block_67
  refine sm_cS (pc := 67) (n := 1) (mc := 0) (ms := 0) m_X9_one (cr_X9_187 (X := X_X9_block) (fr := 2) (frc := 1) (pc := 67) (mc := 0) (ms := 0) rfl (by decide) dX9_block_67) ?_
  refine sm_iadd (pc := 70) dX9_block_70 ?_
  refine sm_istore (pc := 71) (n := 4) dX9_block_71 ?_
  refine sm_iinc (pc := 73) (n := 5) dX9_block_73 zc_i_1 ?_
  refine sm_goto (pc := 76) (tgt := 40) dX9_block_76 (by decide) ?_
  exact hr40
noncomputable def lX9_block_40 {d : Nat} (P : zP d) (r40 : zK d) : zK d := (xild 5 (xald 0 (xgfI 25 2 (xcmp tge (xild 2 (xtsw [(bX9_block_120 P), (bX9_block_123 P), (bX9_block_125 P), (bX9_block_137 P), (bX9_block_153 P), (bX9_block_160 P)] (bX9_block_229 P))) (xild 4 (xald 0 (xgfR 25 17 (xild 5 (xald1 0 (xild 1 (xjoin (bX9_block_67 P r40) (fun j67 => (xcmp Nat.beq (xpI 1 j67) (xpI 0 j67))))))))))))))
set_option maxRecDepth 100000 in
set_option maxHeartbeats 4000000 in
theorem slX9_block_40 {d : Nat} [zGh] (P : zP d) (r40 : zK d) (hr40 : zSim X_X9_block 2 P 40 r40) : zSim X_X9_block 2 P 40 (lX9_block_40 P r40) := by
  unfold lX9_block_40
  refine sm_iload (pc := 40) (n := 5) dX9_block_40 ?_
  refine sm_aload_n (pc := 42) (n := 0) dX9_block_42 rfl ?_
  refine gf_X9_153 (pc := 43) rfl dX9_block_43 ?_
  refine sm_icmp_ge (pc := 46) (tgt := 79) dX9_block_46 (by decide) ?_ ?_
  · skip
    refine sm_iload_n (pc := 79) (n := 2) dX9_block_79 rfl ?_
    refine sm_tsw2 (pc := 80) (n := 5) (tdf := 229) [120, 123, 125, 137, 153, 160] rfl (by decide) dX9_block_80 rfl (by decide +kernel) (by decide) (sbX9_block_229 P) (fun i k t hk ht => ?_)
    match i, hk, ht with
    | 0, hk, ht => cases hk; cases ht; exact sbX9_block_120 P
    | 1, hk, ht => cases hk; cases ht; exact sbX9_block_123 P
    | 2, hk, ht => cases hk; cases ht; exact sbX9_block_125 P
    | 3, hk, ht => cases hk; cases ht; exact sbX9_block_137 P
    | 4, hk, ht => cases hk; cases ht; exact sbX9_block_153 P
    | 5, hk, ht => cases hk; cases ht; exact sbX9_block_160 P
    | i + 6, hk, ht => cases hk
  · skip
    refine sm_iload (pc := 49) (n := 4) dX9_block_49 ?_
    refine sm_aload_n (pc := 51) (n := 0) dX9_block_51 rfl ?_
    refine gf_X9_47 (pc := 52) rfl dX9_block_52 ?_
    refine sm_iload (pc := 55) (n := 5) dX9_block_55 ?_
    refine sm_iaload (pc := 57) dX9_block_57 ?_
    refine sm_iload_n (pc := 58) (n := 1) dX9_block_58 rfl ?_
    refine sm_join (pc := 59) (pc' := 67) (sbX9_block_67 P r40 hr40) (fun j67 hj67 => ?_)
    refine sm_icmp_ne (pc := 59) (tgt := 66) dX9_block_59 (by decide) ?_ ?_
    · skip
      refine sm_iconst (pc := 66) dX9_block_66 zc_i_0 ?_
      exact hj67
    · skip
      refine sm_iconst (pc := 62) dX9_block_62 zc_i_1 ?_
      refine sm_goto (pc := 63) (tgt := 67) dX9_block_63 (by decide) ?_
      exact hj67
noncomputable def b_X9_block {d : Nat} (P : zP d) : zK d := (xild 2 (xpI 4294967295 (xcmp Nat.beq (xald 0 (xgfI 25 18 (xiret P))) (xild 1 (xi2l (xpL 0 (xald 0 (xgfI 25 18 (xpI 1 (xbin zsub (xi2l (xcS 3 0 0 f_X9_isIn (xif0 t0eq (xpI 4294967295 (xiret P)) (xald 0 (xild 1 (xcV 25 2 0 0 f_X9_membersOf (xist 3 (xpI 0 (xist 4 (xpI 0 (xist 5 (xloop (fun r40 => (lX9_block_40 P r40)) 100000))))))))))))))))))))))
set_option maxRecDepth 100000 in
set_option maxHeartbeats 4000000 in
theorem s_X9_block {d : Nat} [zGh] (P : zP d) : zSim X_X9_block 2 P 0 (b_X9_block P) := by
  unfold b_X9_block
  refine sm_iload_n (pc := 0) (n := 2) dX9_block_0 rfl ?_
  refine sm_iconst (pc := 1) dX9_block_1 zc_i_m1 ?_
  refine sm_icmp_ne (pc := 2) (tgt := 10) dX9_block_2 (by decide) ?_ ?_
  · skip
    refine sm_iload_n (pc := 10) (n := 1) dX9_block_10 rfl ?_
    refine sm_i2l (pc := 11) dX9_block_11 ?_
    refine sm_lconst (pc := 12) dX9_block_12 zc_l_0 ?_
    refine sm_aload_n (pc := 13) (n := 0) dX9_block_13 rfl ?_
    refine gf_X9_199 (pc := 14) rfl dX9_block_14 ?_
    refine sm_iconst (pc := 17) dX9_block_17 zc_i_1 ?_
    refine sm_isub (pc := 18) dX9_block_18 ?_
    refine sm_i2l (pc := 19) dX9_block_19 ?_
    refine sm_cS (pc := 20) (n := 3) (mc := 0) (ms := 0) m_X9_isIn (cr_X9_283 (X := X_X9_block) (fr := 2) (frc := 1) (pc := 20) (mc := 0) (ms := 0) rfl (by decide) dX9_block_20) ?_
    refine sm_if_ne (pc := 23) (tgt := 28) dX9_block_23 (by decide) ?_ ?_
    · skip
      refine sm_aload_n (pc := 28) (n := 0) dX9_block_28 rfl ?_
      refine sm_iload_n (pc := 29) (n := 1) dX9_block_29 rfl ?_
      refine sm_cV (pc := 30) (ci := 9) (n := 2) (mc := 0) (ms := 0) rfl m_X9_membersOf (cr_X9_309 (X := X_X9_block) (fr := 2) (frc := 1) (pc := 30) (mc := 0) (ms := 0) rfl (by decide) dX9_block_30) ?_
      refine sm_istore_n (pc := 33) (n := 3) dX9_block_33 rfl ?_
      refine sm_iconst (pc := 34) dX9_block_34 zc_i_0 ?_
      refine sm_istore (pc := 35) (n := 4) dX9_block_35 ?_
      refine sm_iconst (pc := 37) dX9_block_37 zc_i_0 ?_
      refine sm_istore (pc := 38) (n := 5) dX9_block_38 ?_
      exact sm_loop (fun r40 hr40 => slX9_block_40 P r40 hr40) _
    · skip
      refine sm_iconst (pc := 26) dX9_block_26 zc_i_m1 ?_
      exact sm_ireturn (pc := 27) dX9_block_27 rfl
  · skip
    refine sm_aload_n (pc := 5) (n := 0) dX9_block_5 rfl ?_
    refine gf_X9_199 (pc := 6) rfl dX9_block_6 ?_
    exact sm_ireturn (pc := 9) dX9_block_9 rfl
noncomputable def f_X9_block {d : Nat} : List zV → zH d → zP d → Bool := zfn 7 b_X9_block
theorem m_X9_block {d : Nat} : zMet (d := d) X_X9_block yX9_block 2 f_X9_block := zmet_mk (X := X_X9_block) (by decide) rfl rfl s_X9_block

abbrev X_X9_isSlot : zM := (RX9, cX9_isSlot, 1, (some .boolean), "isSlot")
noncomputable def b_X9_isSlot {d : Nat} (P : zP d) : zK d := (xild 0 (xi2l (xpL 0 (xpL 5 (xcS 3 0 0 f_X9_isIn (xzret P))))))
set_option maxRecDepth 100000 in
set_option maxHeartbeats 4000000 in
theorem s_X9_isSlot {d : Nat} [zGh] (P : zP d) : zSim X_X9_isSlot 2 P 0 (b_X9_isSlot P) := by
  unfold b_X9_isSlot
  refine sm_iload_n (pc := 0) (n := 0) dX9_isSlot_0 rfl ?_
  refine sm_i2l (pc := 1) dX9_isSlot_1 ?_
  refine sm_lconst (pc := 2) dX9_isSlot_2 zc_l_0 ?_
  refine sm_ldc2 (pc := 3) dX9_isSlot_3 wd_1247 zc_cl_5 ?_
  refine sm_cS (pc := 6) (n := 3) (mc := 0) (ms := 0) m_X9_isIn (cr_X9_283 (X := X_X9_isSlot) (fr := 2) (frc := 1) (pc := 6) (mc := 0) (ms := 0) rfl (by decide) dX9_isSlot_6) ?_
  exact sm_zreturn (pc := 9) dX9_isSlot_9 rfl
noncomputable def f_X9_isSlot {d : Nat} : List zV → zH d → zP d → Bool := zfn 1 b_X9_isSlot
theorem m_X9_isSlot {d : Nat} : zMet (d := d) X_X9_isSlot yX9_isSlot 2 f_X9_isSlot := zmet_mk (X := X_X9_isSlot) (by decide) rfl rfl s_X9_isSlot

abbrev X_X9_value : zM := (RX9, cX9_value, 3, (some .long), "value")
noncomputable def bX9_value_32 {d : Nat} (P : zP d) : zK d := (xlret P)
set_option maxRecDepth 100000 in
set_option maxHeartbeats 4000000 in
theorem sbX9_value_32 {d : Nat} [zGh] (P : zP d) : zSim X_X9_value 3 P 32 (bX9_value_32 P) := by
  unfold bX9_value_32
  exact sm_lreturn (pc := 32) dX9_value_32 rfl
noncomputable def bX9_value_29 {d : Nat} (P : zP d) (j32 : zK d) : zK d := (xpL 9223372036854775808 j32)
set_option maxRecDepth 100000 in
set_option maxHeartbeats 4000000 in
theorem sbX9_value_29 {d : Nat} [zGh] (P : zP d) (j32 : zK d) (hj32 : zSim X_X9_value 3 P 32 j32) : zSim X_X9_value 3 P 29 (bX9_value_29 P j32) := by
  unfold bX9_value_29
  refine sm_ldc2 (pc := 29) dX9_value_29 wd_1311 zc_cl_m9223372036854775808 ?_
  exact hj32
noncomputable def b_X9_value {d : Nat} (P : zP d) : zK d := (xild 1 (xcS 1 0 0 f_X9_isSlot (xjoin (bX9_value_32 P) (fun j32 => (xjoin (bX9_value_29 P j32) (fun j29 => (xif0 t0eq j29 (xald 0 (xild 2 (xcV 25 2 0 0 f_X9_isPart (xif0 t0eq j29 (xald 0 (xgfR 25 43 (xpI 11 (xild 1 (xbin zmul (xild 2 (xbin zadd (xlal j32)))))))))))))))))))
set_option maxRecDepth 100000 in
set_option maxHeartbeats 4000000 in
theorem s_X9_value {d : Nat} [zGh] (P : zP d) : zSim X_X9_value 3 P 0 (b_X9_value P) := by
  unfold b_X9_value
  refine sm_iload_n (pc := 0) (n := 1) dX9_value_0 rfl ?_
  refine sm_cS (pc := 1) (n := 1) (mc := 0) (ms := 0) m_X9_isSlot (cr_X9_319 (X := X_X9_value) (fr := 3) (frc := 2) (pc := 1) (mc := 0) (ms := 0) rfl (by decide) dX9_value_1) ?_
  refine sm_join (pc := 4) (pc' := 32) (sbX9_value_32 P) (fun j32 hj32 => ?_)
  refine sm_join (pc := 4) (pc' := 29) (sbX9_value_29 P j32 hj32) (fun j29 hj29 => ?_)
  refine sm_if_eq (pc := 4) (tgt := 29) dX9_value_4 (by decide) ?_ ?_
  · skip
    exact hj29
  · skip
    refine sm_aload_n (pc := 7) (n := 0) dX9_value_7 rfl ?_
    refine sm_iload_n (pc := 8) (n := 2) dX9_value_8 rfl ?_
    refine sm_cV (pc := 9) (ci := 9) (n := 2) (mc := 0) (ms := 0) rfl m_X9_isPart (cr_X9_287 (X := X_X9_value) (fr := 3) (frc := 2) (pc := 9) (mc := 0) (ms := 0) rfl (by decide) dX9_value_9) ?_
    refine sm_if_eq (pc := 12) (tgt := 29) dX9_value_12 (by decide) ?_ ?_
    · skip
      exact hj29
    · skip
      refine sm_aload_n (pc := 15) (n := 0) dX9_value_15 rfl ?_
      refine gf_X9_115 (pc := 16) rfl dX9_value_16 ?_
      refine sm_bipush (pc := 19) dX9_value_19 zc_b_11 ?_
      refine sm_iload_n (pc := 21) (n := 1) dX9_value_21 rfl ?_
      refine sm_imul (pc := 22) dX9_value_22 ?_
      refine sm_iload_n (pc := 23) (n := 2) dX9_value_23 rfl ?_
      refine sm_iadd (pc := 24) dX9_value_24 ?_
      refine sm_laload (pc := 25) dX9_value_25 ?_
      refine sm_goto (pc := 26) (tgt := 32) dX9_value_26 (by decide) ?_
      exact hj32
noncomputable def f_X9_value {d : Nat} : List zV → zH d → zP d → Bool := zfn 3 b_X9_value
theorem m_X9_value {d : Nat} : zMet (d := d) X_X9_value yX9_value 3 f_X9_value := zmet_mk (X := X_X9_value) (by decide) rfl rfl s_X9_value

abbrev X_X9_ordinarySum : zM := (RX9, cX9_ordinarySum, 6, (some .long), "ordinarySum")
noncomputable def cX9_ordinarySum_44 {d : Nat} (P : zP d) (r5 : zK d) : zK d := (xild 5 (xbin zadd (xald1 0 (xi2l (xbinj zmulj (xbinj zaddj (xlst 3 (xinc 5 1 r5))))))))
set_option maxRecDepth 100000 in
set_option maxHeartbeats 4000000 in
theorem scX9_ordinarySum_44 {d : Nat} [zGh] (P : zP d) (r5 : zK d) (hr5 : zSim X_X9_ordinarySum 1 P 5 r5) : zSim X_X9_ordinarySum 1 P 44 (cX9_ordinarySum_44 P r5) := by
  unfold cX9_ordinarySum_44
  refine sm_iload (pc := 44) (n := 5) dX9_ordinarySum_44 ?_
  refine sm_iadd (pc := 46) dX9_ordinarySum_46 ?_
  refine sm_iaload (pc := 47) dX9_ordinarySum_47 ?_
  refine sm_i2l (pc := 48) dX9_ordinarySum_48 ?_
  refine sm_lmul (pc := 49) dX9_ordinarySum_49 ?_
  refine sm_ladd (pc := 50) dX9_ordinarySum_50 ?_
  refine sm_lstore_n (pc := 51) (n := 3) dX9_ordinarySum_51 rfl ?_
  refine sm_iinc (pc := 52) (n := 5) dX9_ordinarySum_52 zc_i_1 ?_
  refine sm_goto (pc := 55) (tgt := 5) dX9_ordinarySum_55 (by decide) ?_
  exact hr5
noncomputable def lX9_ordinarySum_5 {d : Nat} (P : zP d) (r5 : zK d) : zK d := (xild 5 (xald 0 (xgfI 25 2 (xcmp tge (xlld 3 (xlret P)) (xlld 3 (xald 0 (xgfR 25 43 (xpI 11 (xild 1 (xbin zmul (xild 5 (xbin zadd (xlal (xald 0 (xgfR 25 5 (xild 5 (xald1 0 (xi2l (xbinj zmulj (xald 0 (xgfR 25 14 (xpI 11 (xild 2 (xbin zmul (cX9_ordinarySum_44 P r5)))))))))))))))))))))))))
set_option maxRecDepth 100000 in
set_option maxHeartbeats 4000000 in
theorem slX9_ordinarySum_5 {d : Nat} [zGh] (P : zP d) (r5 : zK d) (hr5 : zSim X_X9_ordinarySum 1 P 5 r5) : zSim X_X9_ordinarySum 1 P 5 (lX9_ordinarySum_5 P r5) := by
  unfold lX9_ordinarySum_5
  refine sm_iload (pc := 5) (n := 5) dX9_ordinarySum_5 ?_
  refine sm_aload_n (pc := 7) (n := 0) dX9_ordinarySum_7 rfl ?_
  refine gf_X9_153 (pc := 8) rfl dX9_ordinarySum_8 ?_
  refine sm_icmp_ge (pc := 11) (tgt := 58) dX9_ordinarySum_11 (by decide) ?_ ?_
  · skip
    refine sm_lload_n (pc := 58) (n := 3) dX9_ordinarySum_58 rfl ?_
    exact sm_lreturn (pc := 59) dX9_ordinarySum_59 rfl
  · skip
    refine sm_lload_n (pc := 14) (n := 3) dX9_ordinarySum_14 rfl ?_
    refine sm_aload_n (pc := 15) (n := 0) dX9_ordinarySum_15 rfl ?_
    refine gf_X9_115 (pc := 16) rfl dX9_ordinarySum_16 ?_
    refine sm_bipush (pc := 19) dX9_ordinarySum_19 zc_b_11 ?_
    refine sm_iload_n (pc := 21) (n := 1) dX9_ordinarySum_21 rfl ?_
    refine sm_imul (pc := 22) dX9_ordinarySum_22 ?_
    refine sm_iload (pc := 23) (n := 5) dX9_ordinarySum_23 ?_
    refine sm_iadd (pc := 25) dX9_ordinarySum_25 ?_
    refine sm_laload (pc := 26) dX9_ordinarySum_26 ?_
    refine sm_aload_n (pc := 27) (n := 0) dX9_ordinarySum_27 rfl ?_
    refine gf_X9_16 (pc := 28) rfl dX9_ordinarySum_28 ?_
    refine sm_iload (pc := 31) (n := 5) dX9_ordinarySum_31 ?_
    refine sm_iaload (pc := 33) dX9_ordinarySum_33 ?_
    refine sm_i2l (pc := 34) dX9_ordinarySum_34 ?_
    refine sm_lmul (pc := 35) dX9_ordinarySum_35 ?_
    refine sm_aload_n (pc := 36) (n := 0) dX9_ordinarySum_36 rfl ?_
    refine gf_X9_38 (pc := 37) rfl dX9_ordinarySum_37 ?_
    refine sm_bipush (pc := 40) dX9_ordinarySum_40 zc_b_11 ?_
    refine sm_iload_n (pc := 42) (n := 2) dX9_ordinarySum_42 rfl ?_
    refine sm_imul (pc := 43) dX9_ordinarySum_43 ?_
    exact scX9_ordinarySum_44 P r5 hr5
noncomputable def b_X9_ordinarySum {d : Nat} (P : zP d) : zK d := (xpL 0 (xlst 3 (xpI 0 (xist 5 (xloop (fun r5 => (lX9_ordinarySum_5 P r5)) 100000)))))
set_option maxRecDepth 100000 in
set_option maxHeartbeats 4000000 in
theorem s_X9_ordinarySum {d : Nat} [zGh] (P : zP d) : zSim X_X9_ordinarySum 1 P 0 (b_X9_ordinarySum P) := by
  unfold b_X9_ordinarySum
  refine sm_lconst (pc := 0) dX9_ordinarySum_0 zc_l_0 ?_
  refine sm_lstore_n (pc := 1) (n := 3) dX9_ordinarySum_1 rfl ?_
  refine sm_iconst (pc := 2) dX9_ordinarySum_2 zc_i_0 ?_
  refine sm_istore (pc := 3) (n := 5) dX9_ordinarySum_3 ?_
  exact sm_loop (fun r5 hr5 => slX9_ordinarySum_5 P r5 hr5) _
noncomputable def f_X9_ordinarySum {d : Nat} : List zV → zH d → zP d → Bool := zfn 6 b_X9_ordinarySum
theorem m_X9_ordinarySum {d : Nat} : zMet (d := d) X_X9_ordinarySum yX9_ordinarySum 1 f_X9_ordinarySum := zmet_mk (X := X_X9_ordinarySum) (by decide) rfl rfl s_X9_ordinarySum

abbrev X_X9_modularSum : zM := (RX9, cX9_modularSum, 6, (some .long), "modularSum")
noncomputable def bX9_modularSum_62 {d : Nat} (P : zP d) (r5 : zK d) : zK d := (xinc 5 1 r5)
set_option maxRecDepth 100000 in
set_option maxHeartbeats 4000000 in
theorem sbX9_modularSum_62 {d : Nat} [zGh] (P : zP d) (r5 : zK d) (hr5 : zSim X_X9_modularSum 1 P 5 r5) : zSim X_X9_modularSum 1 P 62 (bX9_modularSum_62 P r5) := by
  unfold bX9_modularSum_62
  refine sm_iinc (pc := 62) (n := 5) dX9_modularSum_62 zc_i_1 ?_
  refine sm_goto (pc := 65) (tgt := 5) dX9_modularSum_65 (by decide) ?_
  exact hr5
noncomputable def cX9_modularSum_46 {d : Nat} (P : zP d) (j62 : zK d) : zK d := (xald 0 (xgfR 25 40 (xpI 11 (xild 2 (xbin zmul (xild 5 (xbin zadd (xald1 0 (xi2l (xbinj zmulj (xbinj zaddj (xlst 3 j62))))))))))))
set_option maxRecDepth 100000 in
set_option maxHeartbeats 4000000 in
theorem scX9_modularSum_46 {d : Nat} [zGh] (P : zP d) (j62 : zK d) (hj62 : zSim X_X9_modularSum 1 P 62 j62) : zSim X_X9_modularSum 1 P 46 (cX9_modularSum_46 P j62) := by
  unfold cX9_modularSum_46
  refine sm_aload_n (pc := 46) (n := 0) dX9_modularSum_46 rfl ?_
  refine gf_X9_105 (pc := 47) rfl dX9_modularSum_47 ?_
  refine sm_bipush (pc := 50) dX9_modularSum_50 zc_b_11 ?_
  refine sm_iload_n (pc := 52) (n := 2) dX9_modularSum_52 rfl ?_
  refine sm_imul (pc := 53) dX9_modularSum_53 ?_
  refine sm_iload (pc := 54) (n := 5) dX9_modularSum_54 ?_
  refine sm_iadd (pc := 56) dX9_modularSum_56 ?_
  refine sm_iaload (pc := 57) dX9_modularSum_57 ?_
  refine sm_i2l (pc := 58) dX9_modularSum_58 ?_
  refine sm_lmul (pc := 59) dX9_modularSum_59 ?_
  refine sm_ladd (pc := 60) dX9_modularSum_60 ?_
  refine sm_lstore_n (pc := 61) (n := 3) dX9_modularSum_61 rfl ?_
  exact hj62
noncomputable def lX9_modularSum_5 {d : Nat} (P : zP d) (r5 : zK d) : zK d := (xild 5 (xald 0 (xgfI 25 2 (xcmp tge (xlld 3 (xlret P)) (xald 0 (xgfR 25 8 (xild 5 (xald1 1 (xjoin (bX9_modularSum_62 P r5) (fun j62 => (xif0 t0eq j62 (xlld 3 (xald 0 (xgfR 25 43 (xpI 11 (xild 1 (xbin zmul (xild 5 (xbin zadd (xlal (xald 0 (xgfR 25 5 (xild 5 (xald1 0 (xi2l (xbinj zmulj (cX9_modularSum_46 P j62)))))))))))))))))))))))))))
set_option maxRecDepth 100000 in
set_option maxHeartbeats 4000000 in
theorem slX9_modularSum_5 {d : Nat} [zGh] (P : zP d) (r5 : zK d) (hr5 : zSim X_X9_modularSum 1 P 5 r5) : zSim X_X9_modularSum 1 P 5 (lX9_modularSum_5 P r5) := by
  unfold lX9_modularSum_5
  refine sm_iload (pc := 5) (n := 5) dX9_modularSum_5 ?_
  refine sm_aload_n (pc := 7) (n := 0) dX9_modularSum_7 rfl ?_
  refine gf_X9_153 (pc := 8) rfl dX9_modularSum_8 ?_
  refine sm_icmp_ge (pc := 11) (tgt := 68) dX9_modularSum_11 (by decide) ?_ ?_
  · skip
    refine sm_lload_n (pc := 68) (n := 3) dX9_modularSum_68 rfl ?_
    exact sm_lreturn (pc := 69) dX9_modularSum_69 rfl
  · skip
    refine sm_aload_n (pc := 14) (n := 0) dX9_modularSum_14 rfl ?_
    refine gf_X9_26 (pc := 15) rfl dX9_modularSum_15 ?_
    refine sm_iload (pc := 18) (n := 5) dX9_modularSum_18 ?_
    refine sm_baload (pc := 20) dX9_modularSum_20 ?_
    refine sm_join (pc := 21) (pc' := 62) (sbX9_modularSum_62 P r5 hr5) (fun j62 hj62 => ?_)
    refine sm_if_eq (pc := 21) (tgt := 62) dX9_modularSum_21 (by decide) ?_ ?_
    · skip
      exact hj62
    · skip
      refine sm_lload_n (pc := 24) (n := 3) dX9_modularSum_24 rfl ?_
      refine sm_aload_n (pc := 25) (n := 0) dX9_modularSum_25 rfl ?_
      refine gf_X9_115 (pc := 26) rfl dX9_modularSum_26 ?_
      refine sm_bipush (pc := 29) dX9_modularSum_29 zc_b_11 ?_
      refine sm_iload_n (pc := 31) (n := 1) dX9_modularSum_31 rfl ?_
      refine sm_imul (pc := 32) dX9_modularSum_32 ?_
      refine sm_iload (pc := 33) (n := 5) dX9_modularSum_33 ?_
      refine sm_iadd (pc := 35) dX9_modularSum_35 ?_
      refine sm_laload (pc := 36) dX9_modularSum_36 ?_
      refine sm_aload_n (pc := 37) (n := 0) dX9_modularSum_37 rfl ?_
      refine gf_X9_16 (pc := 38) rfl dX9_modularSum_38 ?_
      refine sm_iload (pc := 41) (n := 5) dX9_modularSum_41 ?_
      refine sm_iaload (pc := 43) dX9_modularSum_43 ?_
      refine sm_i2l (pc := 44) dX9_modularSum_44 ?_
      refine sm_lmul (pc := 45) dX9_modularSum_45 ?_
      exact scX9_modularSum_46 P j62 hj62
noncomputable def b_X9_modularSum {d : Nat} (P : zP d) : zK d := (xpL 0 (xlst 3 (xpI 0 (xist 5 (xloop (fun r5 => (lX9_modularSum_5 P r5)) 100000)))))
set_option maxRecDepth 100000 in
set_option maxHeartbeats 4000000 in
theorem s_X9_modularSum {d : Nat} [zGh] (P : zP d) : zSim X_X9_modularSum 1 P 0 (b_X9_modularSum P) := by
  unfold b_X9_modularSum
  refine sm_lconst (pc := 0) dX9_modularSum_0 zc_l_0 ?_
  refine sm_lstore_n (pc := 1) (n := 3) dX9_modularSum_1 rfl ?_
  refine sm_iconst (pc := 2) dX9_modularSum_2 zc_i_0 ?_
  refine sm_istore (pc := 3) (n := 5) dX9_modularSum_3 ?_
  exact sm_loop (fun r5 hr5 => slX9_modularSum_5 P r5 hr5) _
noncomputable def f_X9_modularSum {d : Nat} : List zV → zH d → zP d → Bool := zfn 6 b_X9_modularSum
theorem m_X9_modularSum {d : Nat} : zMet (d := d) X_X9_modularSum yX9_modularSum 1 f_X9_modularSum := zmet_mk (X := X_X9_modularSum) (by decide) rfl rfl s_X9_modularSum

abbrev X_X9_divisor : zM := (RX9, cX9_divisor, 10, (some .long), "divisor")
noncomputable def lX9_divisor_17 {d : Nat} (P : zP d) (r17 : zK d) : zK d := (xlld 6 (xpL 0 (xlcmp (xif0 t0eq (xlld 4 (xlret P)) (xlld 4 (xlld 6 (xbinjN zremj (xlst 8 (xlld 6 (xlst 4 (xlld 8 (xlst 6 r17))))))))))))
set_option maxRecDepth 100000 in
set_option maxHeartbeats 4000000 in
theorem slX9_divisor_17 {d : Nat} [zGh] (P : zP d) (r17 : zK d) (hr17 : zSim X_X9_divisor 1 P 17 r17) : zSim X_X9_divisor 1 P 17 (lX9_divisor_17 P r17) := by
  unfold lX9_divisor_17
  refine sm_lload (pc := 17) (n := 6) dX9_divisor_17 ?_
  refine sm_lconst (pc := 19) dX9_divisor_19 zc_l_0 ?_
  refine sm_lcmp (pc := 20) dX9_divisor_20 ?_
  refine sm_if_eq (pc := 21) (tgt := 42) dX9_divisor_21 (by decide) ?_ ?_
  · skip
    refine sm_lload (pc := 42) (n := 4) dX9_divisor_42 ?_
    exact sm_lreturn (pc := 44) dX9_divisor_44 rfl
  · skip
    refine sm_lload (pc := 24) (n := 4) dX9_divisor_24 ?_
    refine sm_lload (pc := 26) (n := 6) dX9_divisor_26 ?_
    refine sm_lrem (pc := 28) dX9_divisor_28 ?_
    refine sm_lstore (pc := 29) (n := 8) dX9_divisor_29 ?_
    refine sm_lload (pc := 31) (n := 6) dX9_divisor_31 ?_
    refine sm_lstore (pc := 33) (n := 4) dX9_divisor_33 ?_
    refine sm_lload (pc := 35) (n := 8) dX9_divisor_35 ?_
    refine sm_lstore (pc := 37) (n := 6) dX9_divisor_37 ?_
    refine sm_goto (pc := 39) (tgt := 17) dX9_divisor_39 (by decide) ?_
    exact hr17
noncomputable def bX9_divisor_12 {d : Nat} (P : zP d) : zK d := (xlst 4 (xlld 2 (xlst 6 (xloop (fun r17 => (lX9_divisor_17 P r17)) 100000))))
set_option maxRecDepth 100000 in
set_option maxHeartbeats 4000000 in
theorem sbX9_divisor_12 {d : Nat} [zGh] (P : zP d) : zSim X_X9_divisor 1 P 12 (bX9_divisor_12 P) := by
  unfold bX9_divisor_12
  refine sm_lstore (pc := 12) (n := 4) dX9_divisor_12 ?_
  refine sm_lload_n (pc := 14) (n := 2) dX9_divisor_14 rfl ?_
  refine sm_lstore (pc := 15) (n := 6) dX9_divisor_15 ?_
  exact sm_loop (fun r17 hr17 => slX9_divisor_17 P r17 hr17) _
noncomputable def b_X9_divisor {d : Nat} (P : zP d) : zK d := (xlld 0 (xpL 0 (xlcmp (xjoin (bX9_divisor_12 P) (fun j12 => (xif0 t0ge (xlld 0 j12) (xlld 0 (xunj znegj j12))))))))
set_option maxRecDepth 100000 in
set_option maxHeartbeats 4000000 in
theorem s_X9_divisor {d : Nat} [zGh] (P : zP d) : zSim X_X9_divisor 1 P 0 (b_X9_divisor P) := by
  unfold b_X9_divisor
  refine sm_lload_n (pc := 0) (n := 0) dX9_divisor_0 rfl ?_
  refine sm_lconst (pc := 1) dX9_divisor_1 zc_l_0 ?_
  refine sm_lcmp (pc := 2) dX9_divisor_2 ?_
  refine sm_join (pc := 3) (pc' := 12) (sbX9_divisor_12 P) (fun j12 hj12 => ?_)
  refine sm_if_ge (pc := 3) (tgt := 11) dX9_divisor_3 (by decide) ?_ ?_
  · skip
    refine sm_lload_n (pc := 11) (n := 0) dX9_divisor_11 rfl ?_
    exact hj12
  · skip
    refine sm_lload_n (pc := 6) (n := 0) dX9_divisor_6 rfl ?_
    refine sm_lneg (pc := 7) dX9_divisor_7 ?_
    refine sm_goto (pc := 8) (tgt := 12) dX9_divisor_8 (by decide) ?_
    exact hj12
noncomputable def f_X9_divisor {d : Nat} : List zV → zH d → zP d → Bool := zfn 10 b_X9_divisor
theorem m_X9_divisor {d : Nat} : zMet (d := d) X_X9_divisor yX9_divisor 1 f_X9_divisor := zmet_mk (X := X_X9_divisor) (by decide) rfl rfl s_X9_divisor

abbrev X_X9_parts : zM := (RX9, cX9_parts, 8, (some .long), "parts")
noncomputable def bX9_parts_43 {d : Nat} (P : zP d) : zK d := (xpL 9223372036854775808 (xlret P))
set_option maxRecDepth 100000 in
set_option maxHeartbeats 4000000 in
theorem sbX9_parts_43 {d : Nat} [zGh] (P : zP d) : zSim X_X9_parts 3 P 43 (bX9_parts_43 P) := by
  unfold bX9_parts_43
  refine sm_ldc2 (pc := 43) dX9_parts_43 wd_1311 zc_cl_m9223372036854775808 ?_
  exact sm_lreturn (pc := 46) dX9_parts_46 rfl
noncomputable def bX9_parts_103 {d : Nat} (P : zP d) : zK d := (xlret P)
set_option maxRecDepth 100000 in
set_option maxHeartbeats 4000000 in
theorem sbX9_parts_103 {d : Nat} [zGh] (P : zP d) : zSim X_X9_parts 3 P 103 (bX9_parts_103 P) := by
  unfold bX9_parts_103
  exact sm_lreturn (pc := 103) dX9_parts_103 rfl
noncomputable def bX9_parts_68 {d : Nat} (P : zP d) : zK d := (xlst 4 (xlld 4 (xald 0 (xgfI 25 12 (xi2l (xcS 2 0 0 f_X9_divisor (xlst 6 (xild 3 (xpI 2 (xjoin (bX9_parts_103 P) (fun j103 => (xcmp tge (xald 0 (xgfI 25 12 (xi2l (xlld 6 (xbinjN zdivj j103))))) (xlld 4 (xlld 6 (xbinjN zdivj j103)))))))))))))))
set_option maxRecDepth 100000 in
set_option maxHeartbeats 4000000 in
theorem sbX9_parts_68 {d : Nat} [zGh] (P : zP d) : zSim X_X9_parts 3 P 68 (bX9_parts_68 P) := by
  unfold bX9_parts_68
  refine sm_lstore (pc := 68) (n := 4) dX9_parts_68 ?_
  refine sm_lload (pc := 70) (n := 4) dX9_parts_70 ?_
  refine sm_aload_n (pc := 72) (n := 0) dX9_parts_72 rfl ?_
  refine gf_X9_166 (pc := 73) rfl dX9_parts_73 ?_
  refine sm_i2l (pc := 76) dX9_parts_76 ?_
  refine sm_cS (pc := 77) (n := 2) (mc := 0) (ms := 0) m_X9_divisor (cr_X9_335 (X := X_X9_parts) (fr := 3) (frc := 1) (pc := 77) (mc := 0) (ms := 0) rfl (by decide) dX9_parts_77) ?_
  refine sm_lstore (pc := 80) (n := 6) dX9_parts_80 ?_
  refine sm_iload_n (pc := 82) (n := 3) dX9_parts_82 rfl ?_
  refine sm_iconst (pc := 83) dX9_parts_83 zc_i_2 ?_
  refine sm_join (pc := 84) (pc' := 103) (sbX9_parts_103 P) (fun j103 hj103 => ?_)
  refine sm_icmp_ge (pc := 84) (tgt := 95) dX9_parts_84 (by decide) ?_ ?_
  · skip
    refine sm_aload_n (pc := 95) (n := 0) dX9_parts_95 rfl ?_
    refine gf_X9_166 (pc := 96) rfl dX9_parts_96 ?_
    refine sm_i2l (pc := 99) dX9_parts_99 ?_
    refine sm_lload (pc := 100) (n := 6) dX9_parts_100 ?_
    refine sm_ldiv (pc := 102) dX9_parts_102 ?_
    exact hj103
  · skip
    refine sm_lload (pc := 87) (n := 4) dX9_parts_87 ?_
    refine sm_lload (pc := 89) (n := 6) dX9_parts_89 ?_
    refine sm_ldiv (pc := 91) dX9_parts_91 ?_
    refine sm_goto (pc := 92) (tgt := 103) dX9_parts_92 (by decide) ?_
    exact hj103
noncomputable def bX9_parts_47 {d : Nat} (P : zP d) : zK d := (xild 3 (xpI 2 (xbinN zrem (xjoin (bX9_parts_68 P) (fun j68 => (xif0 t0eq (xald 0 (xild 1 (xild 2 (xcV 25 3 0 0 f_X9_ordinarySum j68)))) (xald 0 (xild 1 (xild 2 (xcV 25 3 0 0 f_X9_modularSum j68))))))))))
set_option maxRecDepth 100000 in
set_option maxHeartbeats 4000000 in
theorem sbX9_parts_47 {d : Nat} [zGh] (P : zP d) : zSim X_X9_parts 3 P 47 (bX9_parts_47 P) := by
  unfold bX9_parts_47
  refine sm_iload_n (pc := 47) (n := 3) dX9_parts_47 rfl ?_
  refine sm_iconst (pc := 48) dX9_parts_48 zc_i_2 ?_
  refine sm_irem (pc := 49) dX9_parts_49 ?_
  refine sm_join (pc := 50) (pc' := 68) (sbX9_parts_68 P) (fun j68 hj68 => ?_)
  refine sm_if_ne (pc := 50) (tgt := 62) dX9_parts_50 (by decide) ?_ ?_
  · skip
    refine sm_aload_n (pc := 62) (n := 0) dX9_parts_62 rfl ?_
    refine sm_iload_n (pc := 63) (n := 1) dX9_parts_63 rfl ?_
    refine sm_iload_n (pc := 64) (n := 2) dX9_parts_64 rfl ?_
    refine sm_cV (pc := 65) (ci := 9) (n := 3) (mc := 0) (ms := 0) rfl m_X9_modularSum (cr_X9_332 (X := X_X9_parts) (fr := 3) (frc := 1) (pc := 65) (mc := 0) (ms := 0) rfl (by decide) dX9_parts_65) ?_
    exact hj68
  · skip
    refine sm_aload_n (pc := 53) (n := 0) dX9_parts_53 rfl ?_
    refine sm_iload_n (pc := 54) (n := 1) dX9_parts_54 rfl ?_
    refine sm_iload_n (pc := 55) (n := 2) dX9_parts_55 rfl ?_
    refine sm_cV (pc := 56) (ci := 9) (n := 3) (mc := 0) (ms := 0) rfl m_X9_ordinarySum (cr_X9_328 (X := X_X9_parts) (fr := 3) (frc := 1) (pc := 56) (mc := 0) (ms := 0) rfl (by decide) dX9_parts_56) ?_
    refine sm_goto (pc := 59) (tgt := 68) dX9_parts_59 (by decide) ?_
    exact hj68
noncomputable def b_X9_parts {d : Nat} (P : zP d) : zK d := (xild 1 (xcS 1 0 0 f_X9_isSlot (xjoin (bX9_parts_43 P) (fun j43 => (xif0 t0eq j43 (xald 0 (xild 2 (xcV 25 2 0 0 f_X9_isPart (xif0 t0eq j43 (xild 3 (xi2l (xpL 0 (xpL 3 (xcS 3 0 0 f_X9_isIn (xif0 t0eq j43 (xild 3 (xpI 2 (xbinN zrem (xpI 1 (xjoin (bX9_parts_47 P) (fun j47 => (xcmp Nat.beq (xald 0 (xgfR 25 7 (xild 2 (xald1 1 (xif0 t0eq j43 j47))))) j47))))))))))))))))))))))
set_option maxRecDepth 100000 in
set_option maxHeartbeats 4000000 in
theorem s_X9_parts {d : Nat} [zGh] (P : zP d) : zSim X_X9_parts 3 P 0 (b_X9_parts P) := by
  unfold b_X9_parts
  refine sm_iload_n (pc := 0) (n := 1) dX9_parts_0 rfl ?_
  refine sm_cS (pc := 1) (n := 1) (mc := 0) (ms := 0) m_X9_isSlot (cr_X9_319 (X := X_X9_parts) (fr := 3) (frc := 2) (pc := 1) (mc := 0) (ms := 0) rfl (by decide) dX9_parts_1) ?_
  refine sm_join (pc := 4) (pc' := 43) (sbX9_parts_43 P) (fun j43 hj43 => ?_)
  refine sm_if_eq (pc := 4) (tgt := 43) dX9_parts_4 (by decide) ?_ ?_
  · skip
    exact hj43
  · skip
    refine sm_aload_n (pc := 7) (n := 0) dX9_parts_7 rfl ?_
    refine sm_iload_n (pc := 8) (n := 2) dX9_parts_8 rfl ?_
    refine sm_cV (pc := 9) (ci := 9) (n := 2) (mc := 0) (ms := 0) rfl m_X9_isPart (cr_X9_287 (X := X_X9_parts) (fr := 3) (frc := 2) (pc := 9) (mc := 0) (ms := 0) rfl (by decide) dX9_parts_9) ?_
    refine sm_if_eq (pc := 12) (tgt := 43) dX9_parts_12 (by decide) ?_ ?_
    · skip
      exact hj43
    · skip
      refine sm_iload_n (pc := 15) (n := 3) dX9_parts_15 rfl ?_
      refine sm_i2l (pc := 16) dX9_parts_16 ?_
      refine sm_lconst (pc := 17) dX9_parts_17 zc_l_0 ?_
      refine sm_ldc2 (pc := 18) dX9_parts_18 wd_1316 zc_cl_3 ?_
      refine sm_cS (pc := 21) (n := 3) (mc := 0) (ms := 0) m_X9_isIn (cr_X9_283 (X := X_X9_parts) (fr := 3) (frc := 1) (pc := 21) (mc := 0) (ms := 0) rfl (by decide) dX9_parts_21) ?_
      refine sm_if_eq (pc := 24) (tgt := 43) dX9_parts_24 (by decide) ?_ ?_
      · skip
        exact hj43
      · skip
        refine sm_iload_n (pc := 27) (n := 3) dX9_parts_27 rfl ?_
        refine sm_iconst (pc := 28) dX9_parts_28 zc_i_2 ?_
        refine sm_irem (pc := 29) dX9_parts_29 ?_
        refine sm_iconst (pc := 30) dX9_parts_30 zc_i_1 ?_
        refine sm_join (pc := 31) (pc' := 47) (sbX9_parts_47 P) (fun j47 hj47 => ?_)
        refine sm_icmp_ne (pc := 31) (tgt := 47) dX9_parts_31 (by decide) ?_ ?_
        · skip
          exact hj47
        · skip
          refine sm_aload_n (pc := 34) (n := 0) dX9_parts_34 rfl ?_
          refine gf_X9_22 (pc := 35) rfl dX9_parts_35 ?_
          refine sm_iload_n (pc := 38) (n := 2) dX9_parts_38 rfl ?_
          refine sm_baload (pc := 39) dX9_parts_39 ?_
          refine sm_if_ne (pc := 40) (tgt := 47) dX9_parts_40 (by decide) ?_ ?_
          · skip
            exact hj47
          · skip
            exact hj43
noncomputable def f_X9_parts {d : Nat} : List zV → zH d → zP d → Bool := zfn 8 b_X9_parts
theorem m_X9_parts {d : Nat} : zMet (d := d) X_X9_parts yX9_parts 3 f_X9_parts := zmet_mk (X := X_X9_parts) (by decide) rfl rfl s_X9_parts

abbrev X_X9_inner : zM := (RX9, cX9_inner, 6, (some .long), "inner")
noncomputable def bX9_inner_14 {d : Nat} (P : zP d) : zK d := (xpL 18446744073709551615 (xlret P))
set_option maxRecDepth 100000 in
set_option maxHeartbeats 4000000 in
theorem sbX9_inner_14 {d : Nat} [zGh] (P : zP d) : zSim X_X9_inner 3 P 14 (bX9_inner_14 P) := by
  unfold bX9_inner_14
  refine sm_ldc2 (pc := 14) dX9_inner_14 wd_1332 zc_cl_m1 ?_
  exact sm_lreturn (pc := 17) dX9_inner_17 rfl
noncomputable def cX9_inner_62 {d : Nat} (P : zP d) (r23 : zK d) : zK d := (xild 5 (xald1 0 (xi2l (xbinj zmulj (xbinj zaddj (xlst 3 (xinc 5 1 r23)))))))
set_option maxRecDepth 100000 in
set_option maxHeartbeats 4000000 in
theorem scX9_inner_62 {d : Nat} [zGh] (P : zP d) (r23 : zK d) (hr23 : zSim X_X9_inner 3 P 23 r23) : zSim X_X9_inner 3 P 62 (cX9_inner_62 P r23) := by
  unfold cX9_inner_62
  refine sm_iload (pc := 62) (n := 5) dX9_inner_62 ?_
  refine sm_iaload (pc := 64) dX9_inner_64 ?_
  refine sm_i2l (pc := 65) dX9_inner_65 ?_
  refine sm_lmul (pc := 66) dX9_inner_66 ?_
  refine sm_ladd (pc := 67) dX9_inner_67 ?_
  refine sm_lstore_n (pc := 68) (n := 3) dX9_inner_68 rfl ?_
  refine sm_iinc (pc := 69) (n := 5) dX9_inner_69 zc_i_1 ?_
  refine sm_goto (pc := 72) (tgt := 23) dX9_inner_72 (by decide) ?_
  exact hr23
noncomputable def lX9_inner_23 {d : Nat} (P : zP d) (r23 : zK d) : zK d := (xild 5 (xald 0 (xgfI 25 2 (xcmp tge (xlld 3 (xlret P)) (xlld 3 (xald 0 (xgfR 25 43 (xpI 11 (xild 1 (xbin zmul (xild 5 (xbin zadd (xlal (xald 0 (xgfR 25 43 (xpI 11 (xild 2 (xbin zmul (xild 5 (xbin zadd (xlal (xbinj zmulj (xald 0 (xgfR 25 5 (cX9_inner_62 P r23)))))))))))))))))))))))))
set_option maxRecDepth 100000 in
set_option maxHeartbeats 4000000 in
theorem slX9_inner_23 {d : Nat} [zGh] (P : zP d) (r23 : zK d) (hr23 : zSim X_X9_inner 3 P 23 r23) : zSim X_X9_inner 3 P 23 (lX9_inner_23 P r23) := by
  unfold lX9_inner_23
  refine sm_iload (pc := 23) (n := 5) dX9_inner_23 ?_
  refine sm_aload_n (pc := 25) (n := 0) dX9_inner_25 rfl ?_
  refine gf_X9_153 (pc := 26) rfl dX9_inner_26 ?_
  refine sm_icmp_ge (pc := 29) (tgt := 75) dX9_inner_29 (by decide) ?_ ?_
  · skip
    refine sm_lload_n (pc := 75) (n := 3) dX9_inner_75 rfl ?_
    exact sm_lreturn (pc := 76) dX9_inner_76 rfl
  · skip
    refine sm_lload_n (pc := 32) (n := 3) dX9_inner_32 rfl ?_
    refine sm_aload_n (pc := 33) (n := 0) dX9_inner_33 rfl ?_
    refine gf_X9_115 (pc := 34) rfl dX9_inner_34 ?_
    refine sm_bipush (pc := 37) dX9_inner_37 zc_b_11 ?_
    refine sm_iload_n (pc := 39) (n := 1) dX9_inner_39 rfl ?_
    refine sm_imul (pc := 40) dX9_inner_40 ?_
    refine sm_iload (pc := 41) (n := 5) dX9_inner_41 ?_
    refine sm_iadd (pc := 43) dX9_inner_43 ?_
    refine sm_laload (pc := 44) dX9_inner_44 ?_
    refine sm_aload_n (pc := 45) (n := 0) dX9_inner_45 rfl ?_
    refine gf_X9_115 (pc := 46) rfl dX9_inner_46 ?_
    refine sm_bipush (pc := 49) dX9_inner_49 zc_b_11 ?_
    refine sm_iload_n (pc := 51) (n := 2) dX9_inner_51 rfl ?_
    refine sm_imul (pc := 52) dX9_inner_52 ?_
    refine sm_iload (pc := 53) (n := 5) dX9_inner_53 ?_
    refine sm_iadd (pc := 55) dX9_inner_55 ?_
    refine sm_laload (pc := 56) dX9_inner_56 ?_
    refine sm_lmul (pc := 57) dX9_inner_57 ?_
    refine sm_aload_n (pc := 58) (n := 0) dX9_inner_58 rfl ?_
    refine gf_X9_16 (pc := 59) rfl dX9_inner_59 ?_
    exact scX9_inner_62 P r23 hr23
noncomputable def b_X9_inner {d : Nat} (P : zP d) : zK d := (xild 1 (xcS 1 0 0 f_X9_isSlot (xjoin (bX9_inner_14 P) (fun j14 => (xif0 t0eq j14 (xild 2 (xcS 1 0 0 f_X9_isSlot (xif0 t0eq j14 (xpL 0 (xlst 3 (xpI 0 (xist 5 (xloop (fun r23 => (lX9_inner_23 P r23)) 100000)))))))))))))
set_option maxRecDepth 100000 in
set_option maxHeartbeats 4000000 in
theorem s_X9_inner {d : Nat} [zGh] (P : zP d) : zSim X_X9_inner 3 P 0 (b_X9_inner P) := by
  unfold b_X9_inner
  refine sm_iload_n (pc := 0) (n := 1) dX9_inner_0 rfl ?_
  refine sm_cS (pc := 1) (n := 1) (mc := 0) (ms := 0) m_X9_isSlot (cr_X9_319 (X := X_X9_inner) (fr := 3) (frc := 2) (pc := 1) (mc := 0) (ms := 0) rfl (by decide) dX9_inner_1) ?_
  refine sm_join (pc := 4) (pc' := 14) (sbX9_inner_14 P) (fun j14 hj14 => ?_)
  refine sm_if_eq (pc := 4) (tgt := 14) dX9_inner_4 (by decide) ?_ ?_
  · skip
    exact hj14
  · skip
    refine sm_iload_n (pc := 7) (n := 2) dX9_inner_7 rfl ?_
    refine sm_cS (pc := 8) (n := 1) (mc := 0) (ms := 0) m_X9_isSlot (cr_X9_319 (X := X_X9_inner) (fr := 3) (frc := 2) (pc := 8) (mc := 0) (ms := 0) rfl (by decide) dX9_inner_8) ?_
    refine sm_if_ne (pc := 11) (tgt := 18) dX9_inner_11 (by decide) ?_ ?_
    · skip
      refine sm_lconst (pc := 18) dX9_inner_18 zc_l_0 ?_
      refine sm_lstore_n (pc := 19) (n := 3) dX9_inner_19 rfl ?_
      refine sm_iconst (pc := 20) dX9_inner_20 zc_i_0 ?_
      refine sm_istore (pc := 21) (n := 5) dX9_inner_21 ?_
      exact sm_loop (fun r23 hr23 => slX9_inner_23 P r23 hr23) _
    · skip
      exact hj14
noncomputable def f_X9_inner {d : Nat} : List zV → zH d → zP d → Bool := zfn 6 b_X9_inner
theorem m_X9_inner {d : Nat} : zMet (d := d) X_X9_inner yX9_inner 3 f_X9_inner := zmet_mk (X := X_X9_inner) (by decide) rfl rfl s_X9_inner

abbrev X_X9_areWhole : zM := (RX9, cX9_areWhole, 7, (some .boolean), "areWhole")
noncomputable def bX9_areWhole_78 {d : Nat} (P : zP d) (r3 : zK d) : zK d := (xinc 4 1 r3)
set_option maxRecDepth 100000 in
set_option maxHeartbeats 4000000 in
theorem sbX9_areWhole_78 {d : Nat} [zGh] (P : zP d) (r3 : zK d) (hr3 : zSim X_X9_areWhole 2 P 3 r3) : zSim X_X9_areWhole 2 P 78 (bX9_areWhole_78 P r3) := by
  unfold bX9_areWhole_78
  refine sm_iinc (pc := 78) (n := 4) dX9_areWhole_78 zc_i_1 ?_
  refine sm_goto (pc := 81) (tgt := 3) dX9_areWhole_81 (by decide) ?_
  exact hr3
noncomputable def bX9_areWhole_76 {d : Nat} (P : zP d) : zK d := (xpI 0 (xzret P))
set_option maxRecDepth 100000 in
set_option maxHeartbeats 4000000 in
theorem sbX9_areWhole_76 {d : Nat} [zGh] (P : zP d) : zSim X_X9_areWhole 2 P 76 (bX9_areWhole_76 P) := by
  unfold bX9_areWhole_76
  refine sm_iconst (pc := 76) dX9_areWhole_76 zc_i_0 ?_
  exact sm_zreturn (pc := 77) dX9_areWhole_77 rfl
noncomputable def bX9_areWhole_50 {d : Nat} (P : zP d) (j78 : zK d) : zK d := (xlst 5 (xlld 5 (xald 0 (xgfI 25 12 (xi2l (xbinjN zremj (xpL 0 (xlcmp (xjoin (bX9_areWhole_76 P) (fun j76 => (xif0 t0eq (xild 3 (xif0 t0eq j78 (xlld 5 (xpL 0 (xlcmp (xif0 t0ge j78 j76)))))) j76)))))))))))
set_option maxRecDepth 100000 in
set_option maxHeartbeats 4000000 in
theorem sbX9_areWhole_50 {d : Nat} [zGh] (P : zP d) (j78 : zK d) (hj78 : zSim X_X9_areWhole 2 P 78 j78) : zSim X_X9_areWhole 2 P 50 (bX9_areWhole_50 P j78) := by
  unfold bX9_areWhole_50
  refine sm_lstore (pc := 50) (n := 5) dX9_areWhole_50 ?_
  refine sm_lload (pc := 52) (n := 5) dX9_areWhole_52 ?_
  refine sm_aload_n (pc := 54) (n := 0) dX9_areWhole_54 rfl ?_
  refine gf_X9_166 (pc := 55) rfl dX9_areWhole_55 ?_
  refine sm_i2l (pc := 58) dX9_areWhole_58 ?_
  refine sm_lrem (pc := 59) dX9_areWhole_59 ?_
  refine sm_lconst (pc := 60) dX9_areWhole_60 zc_l_0 ?_
  refine sm_lcmp (pc := 61) dX9_areWhole_61 ?_
  refine sm_join (pc := 62) (pc' := 76) (sbX9_areWhole_76 P) (fun j76 hj76 => ?_)
  refine sm_if_ne (pc := 62) (tgt := 76) dX9_areWhole_62 (by decide) ?_ ?_
  · skip
    exact hj76
  · skip
    refine sm_iload_n (pc := 65) (n := 3) dX9_areWhole_65 rfl ?_
    refine sm_if_eq (pc := 66) (tgt := 78) dX9_areWhole_66 (by decide) ?_ ?_
    · skip
      exact hj78
    · skip
      refine sm_lload (pc := 69) (n := 5) dX9_areWhole_69 ?_
      refine sm_lconst (pc := 71) dX9_areWhole_71 zc_l_0 ?_
      refine sm_lcmp (pc := 72) dX9_areWhole_72 ?_
      refine sm_if_ge (pc := 73) (tgt := 78) dX9_areWhole_73 (by decide) ?_ ?_
      · skip
        exact hj78
      · skip
        exact hj76
noncomputable def bX9_areWhole_29 {d : Nat} (P : zP d) (j78 : zK d) : zK d := (xild 2 (xjoin (bX9_areWhole_50 P j78) (fun j50 => (xif0 t0eq (xald 0 (xild 1 (xild 4 (xcV 25 3 0 0 f_X9_ordinarySum j50)))) (xald 0 (xild 1 (xild 4 (xcV 25 3 0 0 f_X9_modularSum j50))))))))
set_option maxRecDepth 100000 in
set_option maxHeartbeats 4000000 in
theorem sbX9_areWhole_29 {d : Nat} [zGh] (P : zP d) (j78 : zK d) (hj78 : zSim X_X9_areWhole 2 P 78 j78) : zSim X_X9_areWhole 2 P 29 (bX9_areWhole_29 P j78) := by
  unfold bX9_areWhole_29
  refine sm_iload_n (pc := 29) (n := 2) dX9_areWhole_29 rfl ?_
  refine sm_join (pc := 30) (pc' := 50) (sbX9_areWhole_50 P j78 hj78) (fun j50 hj50 => ?_)
  refine sm_if_eq (pc := 30) (tgt := 43) dX9_areWhole_30 (by decide) ?_ ?_
  · skip
    refine sm_aload_n (pc := 43) (n := 0) dX9_areWhole_43 rfl ?_
    refine sm_iload_n (pc := 44) (n := 1) dX9_areWhole_44 rfl ?_
    refine sm_iload (pc := 45) (n := 4) dX9_areWhole_45 ?_
    refine sm_cV (pc := 47) (ci := 9) (n := 3) (mc := 0) (ms := 0) rfl m_X9_ordinarySum (cr_X9_328 (X := X_X9_areWhole) (fr := 2) (frc := 1) (pc := 47) (mc := 0) (ms := 0) rfl (by decide) dX9_areWhole_47) ?_
    exact hj50
  · skip
    refine sm_aload_n (pc := 33) (n := 0) dX9_areWhole_33 rfl ?_
    refine sm_iload_n (pc := 34) (n := 1) dX9_areWhole_34 rfl ?_
    refine sm_iload (pc := 35) (n := 4) dX9_areWhole_35 ?_
    refine sm_cV (pc := 37) (ci := 9) (n := 3) (mc := 0) (ms := 0) rfl m_X9_modularSum (cr_X9_332 (X := X_X9_areWhole) (fr := 2) (frc := 1) (pc := 37) (mc := 0) (ms := 0) rfl (by decide) dX9_areWhole_37) ?_
    refine sm_goto (pc := 40) (tgt := 50) dX9_areWhole_40 (by decide) ?_
    exact hj50
noncomputable def lX9_areWhole_3 {d : Nat} (P : zP d) (r3 : zK d) : zK d := (xild 4 (xald 0 (xgfI 25 2 (xcmp tge (xpI 1 (xzret P)) (xild 2 (xjoin (bX9_areWhole_78 P r3) (fun j78 => (xjoin (bX9_areWhole_29 P j78) (fun j29 => (xif0 t0eq j29 (xald 0 (xgfR 25 7 (xild 4 (xald1 1 (xif0 t0eq j78 j29)))))))))))))))
set_option maxRecDepth 100000 in
set_option maxHeartbeats 4000000 in
theorem slX9_areWhole_3 {d : Nat} [zGh] (P : zP d) (r3 : zK d) (hr3 : zSim X_X9_areWhole 2 P 3 r3) : zSim X_X9_areWhole 2 P 3 (lX9_areWhole_3 P r3) := by
  unfold lX9_areWhole_3
  refine sm_iload (pc := 3) (n := 4) dX9_areWhole_3 ?_
  refine sm_aload_n (pc := 5) (n := 0) dX9_areWhole_5 rfl ?_
  refine gf_X9_153 (pc := 6) rfl dX9_areWhole_6 ?_
  refine sm_icmp_ge (pc := 9) (tgt := 84) dX9_areWhole_9 (by decide) ?_ ?_
  · skip
    refine sm_iconst (pc := 84) dX9_areWhole_84 zc_i_1 ?_
    exact sm_zreturn (pc := 85) dX9_areWhole_85 rfl
  · skip
    refine sm_iload_n (pc := 12) (n := 2) dX9_areWhole_12 rfl ?_
    refine sm_join (pc := 13) (pc' := 78) (sbX9_areWhole_78 P r3 hr3) (fun j78 hj78 => ?_)
    refine sm_join (pc := 13) (pc' := 29) (sbX9_areWhole_29 P j78 hj78) (fun j29 hj29 => ?_)
    refine sm_if_eq (pc := 13) (tgt := 29) dX9_areWhole_13 (by decide) ?_ ?_
    · skip
      exact hj29
    · skip
      refine sm_aload_n (pc := 16) (n := 0) dX9_areWhole_16 rfl ?_
      refine gf_X9_22 (pc := 17) rfl dX9_areWhole_17 ?_
      refine sm_iload (pc := 20) (n := 4) dX9_areWhole_20 ?_
      refine sm_baload (pc := 22) dX9_areWhole_22 ?_
      refine sm_if_ne (pc := 23) (tgt := 29) dX9_areWhole_23 (by decide) ?_ ?_
      · skip
        exact hj29
      · skip
        refine sm_goto (pc := 26) (tgt := 78) dX9_areWhole_26 (by decide) ?_
        exact hj78
noncomputable def b_X9_areWhole {d : Nat} (P : zP d) : zK d := (xpI 0 (xist 4 (xloop (fun r3 => (lX9_areWhole_3 P r3)) 100000)))
set_option maxRecDepth 100000 in
set_option maxHeartbeats 4000000 in
theorem s_X9_areWhole {d : Nat} [zGh] (P : zP d) : zSim X_X9_areWhole 2 P 0 (b_X9_areWhole P) := by
  unfold b_X9_areWhole
  refine sm_iconst (pc := 0) dX9_areWhole_0 zc_i_0 ?_
  refine sm_istore (pc := 1) (n := 4) dX9_areWhole_1 ?_
  exact sm_loop (fun r3 hr3 => slX9_areWhole_3 P r3 hr3) _
noncomputable def f_X9_areWhole {d : Nat} : List zV → zH d → zP d → Bool := zfn 7 b_X9_areWhole
theorem m_X9_areWhole {d : Nat} : zMet (d := d) X_X9_areWhole yX9_areWhole 2 f_X9_areWhole := zmet_mk (X := X_X9_areWhole) (by decide) rfl rfl s_X9_areWhole

abbrev X_X9_kind : zM := (RX9, cX9_kind, 5, (some .int), "kind")
noncomputable def bX9_kind_19 {d : Nat} (P : zP d) : zK d := (xpI 4294967295 (xiret P))
set_option maxRecDepth 100000 in
set_option maxHeartbeats 4000000 in
theorem sbX9_kind_19 {d : Nat} [zGh] (P : zP d) : zSim X_X9_kind 3 P 19 (bX9_kind_19 P) := by
  unfold bX9_kind_19
  refine sm_iconst (pc := 19) dX9_kind_19 zc_i_m1 ?_
  exact sm_ireturn (pc := 20) dX9_kind_20 rfl
noncomputable def bX9_kind_105 {d : Nat} (P : zP d) (r60 : zK d) : zK d := (xist 3 (xinc 4 1 r60))
set_option maxRecDepth 100000 in
set_option maxHeartbeats 4000000 in
theorem sbX9_kind_105 {d : Nat} [zGh] (P : zP d) (r60 : zK d) (hr60 : zSim X_X9_kind 3 P 60 r60) : zSim X_X9_kind 3 P 105 (bX9_kind_105 P r60) := by
  unfold bX9_kind_105
  refine sm_istore_n (pc := 105) (n := 3) dX9_kind_105 rfl ?_
  refine sm_iinc (pc := 106) (n := 4) dX9_kind_106 zc_i_1 ?_
  refine sm_goto (pc := 109) (tgt := 60) dX9_kind_109 (by decide) ?_
  exact hr60
noncomputable def bX9_kind_104 {d : Nat} (P : zP d) (j105 : zK d) : zK d := (xpI 0 j105)
set_option maxRecDepth 100000 in
set_option maxHeartbeats 4000000 in
theorem sbX9_kind_104 {d : Nat} [zGh] (P : zP d) (j105 : zK d) (hj105 : zSim X_X9_kind 3 P 105 j105) : zSim X_X9_kind 3 P 104 (bX9_kind_104 P j105) := by
  unfold bX9_kind_104
  refine sm_iconst (pc := 104) dX9_kind_104 zc_i_0 ?_
  exact hj105
noncomputable def bX9_kind_100 {d : Nat} (P : zP d) (j105 : zK d) : zK d := (xpI 1 j105)
set_option maxRecDepth 100000 in
set_option maxHeartbeats 4000000 in
theorem sbX9_kind_100 {d : Nat} [zGh] (P : zP d) (j105 : zK d) (hj105 : zSim X_X9_kind 3 P 105 j105) : zSim X_X9_kind 3 P 100 (bX9_kind_100 P j105) := by
  unfold bX9_kind_100
  refine sm_iconst (pc := 100) dX9_kind_100 zc_i_1 ?_
  refine sm_goto (pc := 101) (tgt := 105) dX9_kind_101 (by decide) ?_
  exact hj105
noncomputable def lX9_kind_60 {d : Nat} (P : zP d) (r60 : zK d) : zK d := (xild 4 (xald 0 (xgfI 25 2 (xcmp tge (xild 3 (xcS 1 0 0 f_X9_one (xiret P))) (xild 3 (xjoin (bX9_kind_105 P r60) (fun j105 => (xjoin (bX9_kind_104 P j105) (fun j104 => (xif0 t0eq j104 (xald 0 (xgfR 25 8 (xild 4 (xald1 1 (xjoin (bX9_kind_100 P j105) (fun j100 => (xif0 t0eq (xald 0 (xgfR 25 43 (xpI 11 (xild 1 (xbin zmul (xild 4 (xbin zadd (xlal (xpL 0 (xlcmp (xif0 t0eq j100 j104))))))))))) j100)))))))))))))))))
set_option maxRecDepth 100000 in
set_option maxHeartbeats 4000000 in
theorem slX9_kind_60 {d : Nat} [zGh] (P : zP d) (r60 : zK d) (hr60 : zSim X_X9_kind 3 P 60 r60) : zSim X_X9_kind 3 P 60 (lX9_kind_60 P r60) := by
  unfold lX9_kind_60
  refine sm_iload (pc := 60) (n := 4) dX9_kind_60 ?_
  refine sm_aload_n (pc := 62) (n := 0) dX9_kind_62 rfl ?_
  refine gf_X9_153 (pc := 63) rfl dX9_kind_63 ?_
  refine sm_icmp_ge (pc := 66) (tgt := 112) dX9_kind_66 (by decide) ?_ ?_
  · skip
    refine sm_iload_n (pc := 112) (n := 3) dX9_kind_112 rfl ?_
    refine sm_cS (pc := 113) (n := 1) (mc := 0) (ms := 0) m_X9_one (cr_X9_187 (X := X_X9_kind) (fr := 3) (frc := 1) (pc := 113) (mc := 0) (ms := 0) rfl (by decide) dX9_kind_113) ?_
    exact sm_ireturn (pc := 116) dX9_kind_116 rfl
  · skip
    refine sm_iload_n (pc := 69) (n := 3) dX9_kind_69 rfl ?_
    refine sm_join (pc := 70) (pc' := 105) (sbX9_kind_105 P r60 hr60) (fun j105 hj105 => ?_)
    refine sm_join (pc := 70) (pc' := 104) (sbX9_kind_104 P j105 hj105) (fun j104 hj104 => ?_)
    refine sm_if_eq (pc := 70) (tgt := 104) dX9_kind_70 (by decide) ?_ ?_
    · skip
      exact hj104
    · skip
      refine sm_aload_n (pc := 73) (n := 0) dX9_kind_73 rfl ?_
      refine gf_X9_26 (pc := 74) rfl dX9_kind_74 ?_
      refine sm_iload (pc := 77) (n := 4) dX9_kind_77 ?_
      refine sm_baload (pc := 79) dX9_kind_79 ?_
      refine sm_join (pc := 80) (pc' := 100) (sbX9_kind_100 P j105 hj105) (fun j100 hj100 => ?_)
      refine sm_if_ne (pc := 80) (tgt := 100) dX9_kind_80 (by decide) ?_ ?_
      · skip
        exact hj100
      · skip
        refine sm_aload_n (pc := 83) (n := 0) dX9_kind_83 rfl ?_
        refine gf_X9_115 (pc := 84) rfl dX9_kind_84 ?_
        refine sm_bipush (pc := 87) dX9_kind_87 zc_b_11 ?_
        refine sm_iload_n (pc := 89) (n := 1) dX9_kind_89 rfl ?_
        refine sm_imul (pc := 90) dX9_kind_90 ?_
        refine sm_iload (pc := 91) (n := 4) dX9_kind_91 ?_
        refine sm_iadd (pc := 93) dX9_kind_93 ?_
        refine sm_laload (pc := 94) dX9_kind_94 ?_
        refine sm_lconst (pc := 95) dX9_kind_95 zc_l_0 ?_
        refine sm_lcmp (pc := 96) dX9_kind_96 ?_
        refine sm_if_ne (pc := 97) (tgt := 104) dX9_kind_97 (by decide) ?_ ?_
        · skip
          exact hj104
        · skip
          exact hj100
noncomputable def bX9_kind_48 {d : Nat} (P : zP d) : zK d := (xcV 25 4 0 0 f_X9_areWhole (xcS 1 0 0 f_X9_one (xiret P)))
set_option maxRecDepth 100000 in
set_option maxHeartbeats 4000000 in
theorem sbX9_kind_48 {d : Nat} [zGh] (P : zP d) : zSim X_X9_kind 3 P 48 (bX9_kind_48 P) := by
  unfold bX9_kind_48
  refine sm_cV (pc := 48) (ci := 9) (n := 4) (mc := 0) (ms := 0) rfl m_X9_areWhole (cr_X9_343 (X := X_X9_kind) (fr := 3) (frc := 2) (pc := 48) (mc := 0) (ms := 0) rfl (by decide) dX9_kind_48) ?_
  refine sm_cS (pc := 51) (n := 1) (mc := 0) (ms := 0) m_X9_one (cr_X9_187 (X := X_X9_kind) (fr := 3) (frc := 1) (pc := 51) (mc := 0) (ms := 0) rfl (by decide) dX9_kind_51) ?_
  exact sm_ireturn (pc := 54) dX9_kind_54 rfl
noncomputable def bX9_kind_37 {d : Nat} (P : zP d) : zK d := (xild 2 (xpI 2 (xbinN zrem (xjoin (bX9_kind_48 P) (fun j48 => (xif0 t0eq (xpI 1 j48) (xpI 0 j48)))))))
set_option maxRecDepth 100000 in
set_option maxHeartbeats 4000000 in
theorem sbX9_kind_37 {d : Nat} [zGh] (P : zP d) : zSim X_X9_kind 3 P 37 (bX9_kind_37 P) := by
  unfold bX9_kind_37
  refine sm_iload_n (pc := 37) (n := 2) dX9_kind_37 rfl ?_
  refine sm_iconst (pc := 38) dX9_kind_38 zc_i_2 ?_
  refine sm_irem (pc := 39) dX9_kind_39 ?_
  refine sm_join (pc := 40) (pc' := 48) (sbX9_kind_48 P) (fun j48 hj48 => ?_)
  refine sm_if_ne (pc := 40) (tgt := 47) dX9_kind_40 (by decide) ?_ ?_
  · skip
    refine sm_iconst (pc := 47) dX9_kind_47 zc_i_0 ?_
    exact hj48
  · skip
    refine sm_iconst (pc := 43) dX9_kind_43 zc_i_1 ?_
    refine sm_goto (pc := 44) (tgt := 48) dX9_kind_44 (by decide) ?_
    exact hj48
noncomputable def b_X9_kind {d : Nat} (P : zP d) : zK d := (xild 1 (xcS 1 0 0 f_X9_isSlot (xjoin (bX9_kind_19 P) (fun j19 => (xif0 t0eq j19 (xild 2 (xi2l (xpL 0 (xpL 4 (xcS 3 0 0 f_X9_isIn (xif0 t0eq j19 (xild 2 (xif0 t0le (xpI 1 (xist 3 (xpI 0 (xist 4 (xloop (fun r60 => (lX9_kind_60 P r60)) 100000))))) (xald 0 (xild 1 (xild 2 (xpI 2 (xjoin (bX9_kind_37 P) (fun j37 => (xcmp tle (xpI 0 j37) (xpI 1 j37)))))))))))))))))))))
set_option maxRecDepth 100000 in
set_option maxHeartbeats 4000000 in
theorem s_X9_kind {d : Nat} [zGh] (P : zP d) : zSim X_X9_kind 3 P 0 (b_X9_kind P) := by
  unfold b_X9_kind
  refine sm_iload_n (pc := 0) (n := 1) dX9_kind_0 rfl ?_
  refine sm_cS (pc := 1) (n := 1) (mc := 0) (ms := 0) m_X9_isSlot (cr_X9_319 (X := X_X9_kind) (fr := 3) (frc := 2) (pc := 1) (mc := 0) (ms := 0) rfl (by decide) dX9_kind_1) ?_
  refine sm_join (pc := 4) (pc' := 19) (sbX9_kind_19 P) (fun j19 hj19 => ?_)
  refine sm_if_eq (pc := 4) (tgt := 19) dX9_kind_4 (by decide) ?_ ?_
  · skip
    exact hj19
  · skip
    refine sm_iload_n (pc := 7) (n := 2) dX9_kind_7 rfl ?_
    refine sm_i2l (pc := 8) dX9_kind_8 ?_
    refine sm_lconst (pc := 9) dX9_kind_9 zc_l_0 ?_
    refine sm_ldc2 (pc := 10) dX9_kind_10 wd_1337 zc_cl_4 ?_
    refine sm_cS (pc := 13) (n := 3) (mc := 0) (ms := 0) m_X9_isIn (cr_X9_283 (X := X_X9_kind) (fr := 3) (frc := 1) (pc := 13) (mc := 0) (ms := 0) rfl (by decide) dX9_kind_13) ?_
    refine sm_if_ne (pc := 16) (tgt := 21) dX9_kind_16 (by decide) ?_ ?_
    · skip
      refine sm_iload_n (pc := 21) (n := 2) dX9_kind_21 rfl ?_
      refine sm_if_le (pc := 22) (tgt := 55) dX9_kind_22 (by decide) ?_ ?_
      · skip
        refine sm_iconst (pc := 55) dX9_kind_55 zc_i_1 ?_
        refine sm_istore_n (pc := 56) (n := 3) dX9_kind_56 rfl ?_
        refine sm_iconst (pc := 57) dX9_kind_57 zc_i_0 ?_
        refine sm_istore (pc := 58) (n := 4) dX9_kind_58 ?_
        exact sm_loop (fun r60 hr60 => slX9_kind_60 P r60 hr60) _
      · skip
        refine sm_aload_n (pc := 25) (n := 0) dX9_kind_25 rfl ?_
        refine sm_iload_n (pc := 26) (n := 1) dX9_kind_26 rfl ?_
        refine sm_iload_n (pc := 27) (n := 2) dX9_kind_27 rfl ?_
        refine sm_iconst (pc := 28) dX9_kind_28 zc_i_2 ?_
        refine sm_join (pc := 29) (pc' := 37) (sbX9_kind_37 P) (fun j37 hj37 => ?_)
        refine sm_icmp_le (pc := 29) (tgt := 36) dX9_kind_29 (by decide) ?_ ?_
        · skip
          refine sm_iconst (pc := 36) dX9_kind_36 zc_i_0 ?_
          exact hj37
        · skip
          refine sm_iconst (pc := 32) dX9_kind_32 zc_i_1 ?_
          refine sm_goto (pc := 33) (tgt := 37) dX9_kind_33 (by decide) ?_
          exact hj37
    · skip
      exact hj19
noncomputable def f_X9_kind {d : Nat} : List zV → zH d → zP d → Bool := zfn 5 b_X9_kind
theorem m_X9_kind {d : Nat} : zMet (d := d) X_X9_kind yX9_kind 3 f_X9_kind := zmet_mk (X := X_X9_kind) (by decide) rfl rfl s_X9_kind

abbrev X_X9_cut : zM := (RX9, cX9_cut, 8, (some .int), "cut")
noncomputable def bX9_cut_40 {d : Nat} (P : zP d) : zK d := (xpI 4294967295 (xiret P))
set_option maxRecDepth 100000 in
set_option maxHeartbeats 4000000 in
theorem sbX9_cut_40 {d : Nat} [zGh] (P : zP d) : zSim X_X9_cut 3 P 40 (bX9_cut_40 P) := by
  unfold bX9_cut_40
  refine sm_iconst (pc := 40) dX9_cut_40 zc_i_m1 ?_
  exact sm_ireturn (pc := 41) dX9_cut_41 rfl
noncomputable def lX9_cut_163 {d : Nat} (P : zP d) (r163 : zK d) : zK d := (xild 4 (xald 0 (xgfI 25 2 (xcmp tge (xpI 0 (xiret P)) (xald 0 (xgfR 25 43 (xpI 11 (xild 3 (xbin zmul (xild 4 (xbin zadd (xald 0 (xgfR 25 44 (xild 4 (xlal (xlas (xinc 4 1 r163)))))))))))))))))
set_option maxRecDepth 100000 in
set_option maxHeartbeats 4000000 in
theorem slX9_cut_163 {d : Nat} [zGh] (P : zP d) (r163 : zK d) (hr163 : zSim X_X9_cut 3 P 163 r163) : zSim X_X9_cut 3 P 163 (lX9_cut_163 P r163) := by
  unfold lX9_cut_163
  refine sm_iload (pc := 163) (n := 4) dX9_cut_163 ?_
  refine sm_aload_n (pc := 165) (n := 0) dX9_cut_165 rfl ?_
  refine gf_X9_153 (pc := 166) rfl dX9_cut_166 ?_
  refine sm_icmp_ge (pc := 169) (tgt := 197) dX9_cut_169 (by decide) ?_ ?_
  · skip
    refine sm_iconst (pc := 197) dX9_cut_197 zc_i_0 ?_
    exact sm_ireturn (pc := 198) dX9_cut_198 rfl
  · skip
    refine sm_aload_n (pc := 172) (n := 0) dX9_cut_172 rfl ?_
    refine gf_X9_115 (pc := 173) rfl dX9_cut_173 ?_
    refine sm_bipush (pc := 176) dX9_cut_176 zc_b_11 ?_
    refine sm_iload_n (pc := 178) (n := 3) dX9_cut_178 rfl ?_
    refine sm_imul (pc := 179) dX9_cut_179 ?_
    refine sm_iload (pc := 180) (n := 4) dX9_cut_180 ?_
    refine sm_iadd (pc := 182) dX9_cut_182 ?_
    refine sm_aload_n (pc := 183) (n := 0) dX9_cut_183 rfl ?_
    refine gf_X9_118 (pc := 184) rfl dX9_cut_184 ?_
    refine sm_iload (pc := 187) (n := 4) dX9_cut_187 ?_
    refine sm_laload (pc := 189) dX9_cut_189 ?_
    refine sm_lastore (pc := 190) dX9_cut_190 ?_
    refine sm_iinc (pc := 191) (n := 4) dX9_cut_191 zc_i_1 ?_
    refine sm_goto (pc := 194) (tgt := 163) dX9_cut_194 (by decide) ?_
    exact hr163
noncomputable def bX9_cut_154 {d : Nat} (P : zP d) (r71 : zK d) : zK d := (xinc 4 1 r71)
set_option maxRecDepth 100000 in
set_option maxHeartbeats 4000000 in
theorem sbX9_cut_154 {d : Nat} [zGh] (P : zP d) (r71 : zK d) (hr71 : zSim X_X9_cut 3 P 71 r71) : zSim X_X9_cut 3 P 154 (bX9_cut_154 P r71) := by
  unfold bX9_cut_154
  refine sm_iinc (pc := 154) (n := 4) dX9_cut_154 zc_i_1 ?_
  refine sm_goto (pc := 157) (tgt := 71) dX9_cut_157 (by decide) ?_
  exact hr71
noncomputable def lX9_cut_112 {d : Nat} (P : zP d) (j154 : zK d) (r112 : zK d) : zK d := (xild 7 (xald 0 (xgfI 25 2 (xcmp tge j154 (xald 0 (xgfR 25 44 (xild 7 (xdup2 (xlal (xlld 5 (xald 0 (xgfR 25 14 (xpI 11 (xild 4 (xbin zmul (xild 7 (xbin zadd (xald1 0 (xi2l (xbinj zmulj (xbinj zaddj (xlas (xinc 7 1 r112)))))))))))))))))))))))
set_option maxRecDepth 100000 in
set_option maxHeartbeats 4000000 in
theorem slX9_cut_112 {d : Nat} [zGh] (P : zP d) (j154 : zK d) (r112 : zK d) (hj154 : zSim X_X9_cut 3 P 154 j154) (hr112 : zSim X_X9_cut 3 P 112 r112) : zSim X_X9_cut 3 P 112 (lX9_cut_112 P j154 r112) := by
  unfold lX9_cut_112
  refine sm_iload (pc := 112) (n := 7) dX9_cut_112 ?_
  refine sm_aload_n (pc := 114) (n := 0) dX9_cut_114 rfl ?_
  refine gf_X9_153 (pc := 115) rfl dX9_cut_115 ?_
  refine sm_icmp_ge (pc := 118) (tgt := 154) dX9_cut_118 (by decide) ?_ ?_
  · skip
    exact hj154
  · skip
    refine sm_aload_n (pc := 121) (n := 0) dX9_cut_121 rfl ?_
    refine gf_X9_118 (pc := 122) rfl dX9_cut_122 ?_
    refine sm_iload (pc := 125) (n := 7) dX9_cut_125 ?_
    refine sm_dup2 (pc := 127) dX9_cut_127 ?_
    refine sm_laload (pc := 128) dX9_cut_128 ?_
    refine sm_lload (pc := 129) (n := 5) dX9_cut_129 ?_
    refine sm_aload_n (pc := 131) (n := 0) dX9_cut_131 rfl ?_
    refine gf_X9_38 (pc := 132) rfl dX9_cut_132 ?_
    refine sm_bipush (pc := 135) dX9_cut_135 zc_b_11 ?_
    refine sm_iload (pc := 137) (n := 4) dX9_cut_137 ?_
    refine sm_imul (pc := 139) dX9_cut_139 ?_
    refine sm_iload (pc := 140) (n := 7) dX9_cut_140 ?_
    refine sm_iadd (pc := 142) dX9_cut_142 ?_
    refine sm_iaload (pc := 143) dX9_cut_143 ?_
    refine sm_i2l (pc := 144) dX9_cut_144 ?_
    refine sm_lmul (pc := 145) dX9_cut_145 ?_
    refine sm_ladd (pc := 146) dX9_cut_146 ?_
    refine sm_lastore (pc := 147) dX9_cut_147 ?_
    refine sm_iinc (pc := 148) (n := 7) dX9_cut_148 zc_i_1 ?_
    refine sm_goto (pc := 151) (tgt := 112) dX9_cut_151 (by decide) ?_
    exact hr112
noncomputable def lX9_cut_71 {d : Nat} (P : zP d) (r71 : zK d) : zK d := (xild 4 (xald 0 (xgfI 25 2 (xcmp tge (xpI 0 (xist 4 (xloop (fun r163 => (lX9_cut_163 P r163)) 100000))) (xald 0 (xgfR 25 17 (xild 4 (xald1 0 (xild 2 (xjoin (bX9_cut_154 P r71) (fun j154 => (xcmp Nat.beq (xald 0 (xild 1 (xild 4 (xcV 25 3 0 0 f_X9_ordinarySum (xald 0 (xgfI 25 12 (xi2l (xbinjN zdivj (xlst 5 (xpI 0 (xist 7 (xloop (fun r112 => (lX9_cut_112 P j154 r112)) 100000)))))))))))) j154))))))))))))
set_option maxRecDepth 100000 in
set_option maxHeartbeats 4000000 in
theorem slX9_cut_71 {d : Nat} [zGh] (P : zP d) (r71 : zK d) (hr71 : zSim X_X9_cut 3 P 71 r71) : zSim X_X9_cut 3 P 71 (lX9_cut_71 P r71) := by
  unfold lX9_cut_71
  refine sm_iload (pc := 71) (n := 4) dX9_cut_71 ?_
  refine sm_aload_n (pc := 73) (n := 0) dX9_cut_73 rfl ?_
  refine gf_X9_153 (pc := 74) rfl dX9_cut_74 ?_
  refine sm_icmp_ge (pc := 77) (tgt := 160) dX9_cut_77 (by decide) ?_ ?_
  · skip
    refine sm_iconst (pc := 160) dX9_cut_160 zc_i_0 ?_
    refine sm_istore (pc := 161) (n := 4) dX9_cut_161 ?_
    exact sm_loop (fun r163 hr163 => slX9_cut_163 P r163 hr163) _
  · skip
    refine sm_aload_n (pc := 80) (n := 0) dX9_cut_80 rfl ?_
    refine gf_X9_47 (pc := 81) rfl dX9_cut_81 ?_
    refine sm_iload (pc := 84) (n := 4) dX9_cut_84 ?_
    refine sm_iaload (pc := 86) dX9_cut_86 ?_
    refine sm_iload_n (pc := 87) (n := 2) dX9_cut_87 rfl ?_
    refine sm_join (pc := 88) (pc' := 154) (sbX9_cut_154 P r71 hr71) (fun j154 hj154 => ?_)
    refine sm_icmp_eq (pc := 88) (tgt := 94) dX9_cut_88 (by decide) ?_ ?_
    · skip
      refine sm_aload_n (pc := 94) (n := 0) dX9_cut_94 rfl ?_
      refine sm_iload_n (pc := 95) (n := 1) dX9_cut_95 rfl ?_
      refine sm_iload (pc := 96) (n := 4) dX9_cut_96 ?_
      refine sm_cV (pc := 98) (ci := 9) (n := 3) (mc := 0) (ms := 0) rfl m_X9_ordinarySum (cr_X9_328 (X := X_X9_cut) (fr := 3) (frc := 1) (pc := 98) (mc := 0) (ms := 0) rfl (by decide) dX9_cut_98) ?_
      refine sm_aload_n (pc := 101) (n := 0) dX9_cut_101 rfl ?_
      refine gf_X9_166 (pc := 102) rfl dX9_cut_102 ?_
      refine sm_i2l (pc := 105) dX9_cut_105 ?_
      refine sm_ldiv (pc := 106) dX9_cut_106 ?_
      refine sm_lstore (pc := 107) (n := 5) dX9_cut_107 ?_
      refine sm_iconst (pc := 109) dX9_cut_109 zc_i_0 ?_
      refine sm_istore (pc := 110) (n := 7) dX9_cut_110 ?_
      exact sm_loop (fun r112 hr112 => slX9_cut_112 P j154 r112 hj154 hr112) _
    · skip
      refine sm_goto (pc := 91) (tgt := 154) dX9_cut_91 (by decide) ?_
      exact hj154
noncomputable def lX9_cut_45 {d : Nat} (P : zP d) (r45 : zK d) : zK d := (xild 4 (xald 0 (xgfI 25 2 (xcmp tge (xpI 0 (xist 4 (xloop (fun r71 => (lX9_cut_71 P r71)) 100000))) (xald 0 (xgfR 25 44 (xild 4 (xpL 0 (xlas (xinc 4 1 r45))))))))))
set_option maxRecDepth 100000 in
set_option maxHeartbeats 4000000 in
theorem slX9_cut_45 {d : Nat} [zGh] (P : zP d) (r45 : zK d) (hr45 : zSim X_X9_cut 3 P 45 r45) : zSim X_X9_cut 3 P 45 (lX9_cut_45 P r45) := by
  unfold lX9_cut_45
  refine sm_iload (pc := 45) (n := 4) dX9_cut_45 ?_
  refine sm_aload_n (pc := 47) (n := 0) dX9_cut_47 rfl ?_
  refine gf_X9_153 (pc := 48) rfl dX9_cut_48 ?_
  refine sm_icmp_ge (pc := 51) (tgt := 68) dX9_cut_51 (by decide) ?_ ?_
  · skip
    refine sm_iconst (pc := 68) dX9_cut_68 zc_i_0 ?_
    refine sm_istore (pc := 69) (n := 4) dX9_cut_69 ?_
    exact sm_loop (fun r71 hr71 => slX9_cut_71 P r71 hr71) _
  · skip
    refine sm_aload_n (pc := 54) (n := 0) dX9_cut_54 rfl ?_
    refine gf_X9_118 (pc := 55) rfl dX9_cut_55 ?_
    refine sm_iload (pc := 58) (n := 4) dX9_cut_58 ?_
    refine sm_lconst (pc := 60) dX9_cut_60 zc_l_0 ?_
    refine sm_lastore (pc := 61) dX9_cut_61 ?_
    refine sm_iinc (pc := 62) (n := 4) dX9_cut_62 zc_i_1 ?_
    refine sm_goto (pc := 65) (tgt := 45) dX9_cut_65 (by decide) ?_
    exact hr45
noncomputable def b_X9_cut {d : Nat} (P : zP d) : zK d := (xild 1 (xcS 1 0 0 f_X9_isSlot (xjoin (bX9_cut_40 P) (fun j40 => (xif0 t0eq j40 (xild 3 (xcS 1 0 0 f_X9_isSlot (xif0 t0eq j40 (xild 2 (xi2l (xpL 0 (xald 0 (xgfI 25 18 (xpI 1 (xbin zsub (xi2l (xcS 3 0 0 f_X9_isIn (xif0 t0eq j40 (xald 0 (xild 1 (xpI 0 (xpI 0 (xcV 25 4 0 0 f_X9_areWhole (xif0 t0eq j40 (xpI 0 (xist 4 (xloop (fun r45 => (lX9_cut_45 P r45)) 100000)))))))))))))))))))))))))))
set_option maxRecDepth 100000 in
set_option maxHeartbeats 4000000 in
theorem s_X9_cut {d : Nat} [zGh] (P : zP d) : zSim X_X9_cut 3 P 0 (b_X9_cut P) := by
  unfold b_X9_cut
  refine sm_iload_n (pc := 0) (n := 1) dX9_cut_0 rfl ?_
  refine sm_cS (pc := 1) (n := 1) (mc := 0) (ms := 0) m_X9_isSlot (cr_X9_319 (X := X_X9_cut) (fr := 3) (frc := 2) (pc := 1) (mc := 0) (ms := 0) rfl (by decide) dX9_cut_1) ?_
  refine sm_join (pc := 4) (pc' := 40) (sbX9_cut_40 P) (fun j40 hj40 => ?_)
  refine sm_if_eq (pc := 4) (tgt := 40) dX9_cut_4 (by decide) ?_ ?_
  · skip
    exact hj40
  · skip
    refine sm_iload_n (pc := 7) (n := 3) dX9_cut_7 rfl ?_
    refine sm_cS (pc := 8) (n := 1) (mc := 0) (ms := 0) m_X9_isSlot (cr_X9_319 (X := X_X9_cut) (fr := 3) (frc := 2) (pc := 8) (mc := 0) (ms := 0) rfl (by decide) dX9_cut_8) ?_
    refine sm_if_eq (pc := 11) (tgt := 40) dX9_cut_11 (by decide) ?_ ?_
    · skip
      exact hj40
    · skip
      refine sm_iload_n (pc := 14) (n := 2) dX9_cut_14 rfl ?_
      refine sm_i2l (pc := 15) dX9_cut_15 ?_
      refine sm_lconst (pc := 16) dX9_cut_16 zc_l_0 ?_
      refine sm_aload_n (pc := 17) (n := 0) dX9_cut_17 rfl ?_
      refine gf_X9_199 (pc := 18) rfl dX9_cut_18 ?_
      refine sm_iconst (pc := 21) dX9_cut_21 zc_i_1 ?_
      refine sm_isub (pc := 22) dX9_cut_22 ?_
      refine sm_i2l (pc := 23) dX9_cut_23 ?_
      refine sm_cS (pc := 24) (n := 3) (mc := 0) (ms := 0) m_X9_isIn (cr_X9_283 (X := X_X9_cut) (fr := 3) (frc := 1) (pc := 24) (mc := 0) (ms := 0) rfl (by decide) dX9_cut_24) ?_
      refine sm_if_eq (pc := 27) (tgt := 40) dX9_cut_27 (by decide) ?_ ?_
      · skip
        exact hj40
      · skip
        refine sm_aload_n (pc := 30) (n := 0) dX9_cut_30 rfl ?_
        refine sm_iload_n (pc := 31) (n := 1) dX9_cut_31 rfl ?_
        refine sm_iconst (pc := 32) dX9_cut_32 zc_i_0 ?_
        refine sm_iconst (pc := 33) dX9_cut_33 zc_i_0 ?_
        refine sm_cV (pc := 34) (ci := 9) (n := 4) (mc := 0) (ms := 0) rfl m_X9_areWhole (cr_X9_343 (X := X_X9_cut) (fr := 3) (frc := 2) (pc := 34) (mc := 0) (ms := 0) rfl (by decide) dX9_cut_34) ?_
        refine sm_if_ne (pc := 37) (tgt := 42) dX9_cut_37 (by decide) ?_ ?_
        · skip
          refine sm_iconst (pc := 42) dX9_cut_42 zc_i_0 ?_
          refine sm_istore (pc := 43) (n := 4) dX9_cut_43 ?_
          exact sm_loop (fun r45 hr45 => slX9_cut_45 P r45 hr45) _
        · skip
          exact hj40
noncomputable def f_X9_cut {d : Nat} : List zV → zH d → zP d → Bool := zfn 8 b_X9_cut
theorem m_X9_cut {d : Nat} : zMet (d := d) X_X9_cut yX9_cut 3 f_X9_cut := zmet_mk (X := X_X9_cut) (by decide) rfl rfl s_X9_cut

abbrev X_X9_four : zM := (RX9, cX9_four, 3, none, "four")
noncomputable def lX9_four_3 {d : Nat} (P : zP d) (r3 : zK d) : zK d := (xild 2 (xif0 t0ge (xald 0 (xgfR 25 45 (xald 0 (xgfI 25 46 (xild 1 (xild 2 (xbin zshr (xpI 255 (xbin zand (xast1 0 (fun v => v) (xald 0 (xdup (xgfI 25 46 (xpI 1 (xbin zadd (xpfI 25 46 (xinc 2 4294967288 r3))))))))))))))))) (xvret P)))
set_option maxRecDepth 100000 in
set_option maxHeartbeats 4000000 in
theorem slX9_four_3 {d : Nat} [zGh] (P : zP d) (r3 : zK d) (hr3 : zSim X_X9_four 1 P 3 r3) : zSim X_X9_four 1 P 3 (lX9_four_3 P r3) := by
  unfold lX9_four_3
  refine sm_iload_n (pc := 3) (n := 2) dX9_four_3 rfl ?_
  refine sm_if_lt (pc := 4) (tgt := 39) dX9_four_4 (by decide) ?_ ?_
  · skip
    exact sm_vreturn (pc := 39) dX9_four_39 rfl
  · skip
    refine sm_aload_n (pc := 7) (n := 0) dX9_four_7 rfl ?_
    refine gf_X9_121 (pc := 8) rfl dX9_four_8 ?_
    refine sm_aload_n (pc := 11) (n := 0) dX9_four_11 rfl ?_
    refine gf_X9_347 (pc := 12) rfl dX9_four_12 ?_
    refine sm_iload_n (pc := 15) (n := 1) dX9_four_15 rfl ?_
    refine sm_iload_n (pc := 16) (n := 2) dX9_four_16 rfl ?_
    refine sm_ishr (pc := 17) dX9_four_17 ?_
    refine sm_sipush (pc := 18) dX9_four_18 zc_s_255 ?_
    refine sm_iand (pc := 21) dX9_four_21 ?_
    refine sm_iastore (pc := 22) dX9_four_22 ?_
    refine sm_aload_n (pc := 23) (n := 0) dX9_four_23 rfl ?_
    refine sm_dup (pc := 24) dX9_four_24 ?_
    refine gf_X9_347 (pc := 25) rfl dX9_four_25 ?_
    refine sm_iconst (pc := 28) dX9_four_28 zc_i_1 ?_
    refine sm_iadd (pc := 29) dX9_four_29 ?_
    refine pf_X9_347 (pc := 30) rfl dX9_four_30 ?_
    refine sm_iinc (pc := 33) (n := 2) dX9_four_33 zc_i_m8 ?_
    refine sm_goto (pc := 36) (tgt := 3) dX9_four_36 (by decide) ?_
    exact hr3
noncomputable def b_X9_four {d : Nat} (P : zP d) : zK d := (xpI 24 (xist 2 (xloop (fun r3 => (lX9_four_3 P r3)) 100000)))
set_option maxRecDepth 100000 in
set_option maxHeartbeats 4000000 in
theorem s_X9_four {d : Nat} [zGh] (P : zP d) : zSim X_X9_four 1 P 0 (b_X9_four P) := by
  unfold b_X9_four
  refine sm_bipush (pc := 0) dX9_four_0 zc_b_24 ?_
  refine sm_istore_n (pc := 2) (n := 2) dX9_four_2 rfl ?_
  exact sm_loop (fun r3 hr3 => slX9_four_3 P r3 hr3) _
noncomputable def f_X9_four {d : Nat} : List zV → zH d → zP d → Bool := zfn 3 b_X9_four
theorem m_X9_four {d : Nat} : zMet (d := d) X_X9_four yX9_four 1 f_X9_four := zmet_mk (X := X_X9_four) (by decide) rfl rfl s_X9_four

abbrev X_X9_feed : zM := (RX9, cX9_feed, 6, (some .int), "feed")
noncomputable def b_X9_feed {d : Nat} (P : zP d) : zK d := (xald 0 (xgfI 25 46 (xpI 20 (xbin zadd (xpI 200 (xcmp tle (xald 0 (xild 1 (xcV 25 2 0 0 f_X9_four (xald 0 (xild 2 (xcV 25 2 0 0 f_X9_four (xald 0 (xild 3 (xcV 25 2 0 0 f_X9_four (xald 0 (xild 4 (xcV 25 2 0 0 f_X9_four (xald 0 (xild 5 (xcV 25 2 0 0 f_X9_four (xald 0 (xgfI 25 46 (xiret P)))))))))))))))))) (xpI 4294967295 (xiret P))))))))
set_option maxRecDepth 100000 in
set_option maxHeartbeats 4000000 in
theorem s_X9_feed {d : Nat} [zGh] (P : zP d) : zSim X_X9_feed 2 P 0 (b_X9_feed P) := by
  unfold b_X9_feed
  refine sm_aload_n (pc := 0) (n := 0) dX9_feed_0 rfl ?_
  refine gf_X9_347 (pc := 1) rfl dX9_feed_1 ?_
  refine sm_bipush (pc := 4) dX9_feed_4 zc_b_20 ?_
  refine sm_iadd (pc := 6) dX9_feed_6 ?_
  refine sm_sipush (pc := 7) dX9_feed_7 zc_s_200 ?_
  refine sm_icmp_le (pc := 10) (tgt := 15) dX9_feed_10 (by decide) ?_ ?_
  · skip
    refine sm_aload_n (pc := 15) (n := 0) dX9_feed_15 rfl ?_
    refine sm_iload_n (pc := 16) (n := 1) dX9_feed_16 rfl ?_
    refine sm_cV (pc := 17) (ci := 9) (n := 2) (mc := 0) (ms := 0) rfl m_X9_four (cr_X9_350 (X := X_X9_feed) (fr := 2) (frc := 1) (pc := 17) (mc := 0) (ms := 0) rfl (by decide) dX9_feed_17) ?_
    refine sm_aload_n (pc := 20) (n := 0) dX9_feed_20 rfl ?_
    refine sm_iload_n (pc := 21) (n := 2) dX9_feed_21 rfl ?_
    refine sm_cV (pc := 22) (ci := 9) (n := 2) (mc := 0) (ms := 0) rfl m_X9_four (cr_X9_350 (X := X_X9_feed) (fr := 2) (frc := 1) (pc := 22) (mc := 0) (ms := 0) rfl (by decide) dX9_feed_22) ?_
    refine sm_aload_n (pc := 25) (n := 0) dX9_feed_25 rfl ?_
    refine sm_iload_n (pc := 26) (n := 3) dX9_feed_26 rfl ?_
    refine sm_cV (pc := 27) (ci := 9) (n := 2) (mc := 0) (ms := 0) rfl m_X9_four (cr_X9_350 (X := X_X9_feed) (fr := 2) (frc := 1) (pc := 27) (mc := 0) (ms := 0) rfl (by decide) dX9_feed_27) ?_
    refine sm_aload_n (pc := 30) (n := 0) dX9_feed_30 rfl ?_
    refine sm_iload (pc := 31) (n := 4) dX9_feed_31 ?_
    refine sm_cV (pc := 33) (ci := 9) (n := 2) (mc := 0) (ms := 0) rfl m_X9_four (cr_X9_350 (X := X_X9_feed) (fr := 2) (frc := 1) (pc := 33) (mc := 0) (ms := 0) rfl (by decide) dX9_feed_33) ?_
    refine sm_aload_n (pc := 36) (n := 0) dX9_feed_36 rfl ?_
    refine sm_iload (pc := 37) (n := 5) dX9_feed_37 ?_
    refine sm_cV (pc := 39) (ci := 9) (n := 2) (mc := 0) (ms := 0) rfl m_X9_four (cr_X9_350 (X := X_X9_feed) (fr := 2) (frc := 1) (pc := 39) (mc := 0) (ms := 0) rfl (by decide) dX9_feed_39) ?_
    refine sm_aload_n (pc := 42) (n := 0) dX9_feed_42 rfl ?_
    refine gf_X9_347 (pc := 43) rfl dX9_feed_43 ?_
    exact sm_ireturn (pc := 46) dX9_feed_46 rfl
  · skip
    refine sm_iconst (pc := 13) dX9_feed_13 zc_i_m1 ?_
    exact sm_ireturn (pc := 14) dX9_feed_14 rfl
noncomputable def f_X9_feed {d : Nat} : List zV → zH d → zP d → Bool := zfn 6 b_X9_feed
theorem m_X9_feed {d : Nat} : zMet (d := d) X_X9_feed yX9_feed 2 f_X9_feed := zmet_mk (X := X_X9_feed) (by decide) rfl rfl s_X9_feed

abbrev X_X9_end : zM := (RX9, cX9_end, 2, (some .boolean), "end")
noncomputable def b_X9_end {d : Nat} (P : zP d) : zK d := (xild 1 (xi2l (xpL 0 (xald 0 (xgfI 25 46 (xi2l (xcS 3 0 0 f_X9_isIn (xif0 t0eq (xpI 0 (xzret P)) (xald 0 (xild 1 (xpfI 25 46 (xpI 1 (xzret P)))))))))))))
set_option maxRecDepth 100000 in
set_option maxHeartbeats 4000000 in
theorem s_X9_end {d : Nat} [zGh] (P : zP d) : zSim X_X9_end 2 P 0 (b_X9_end P) := by
  unfold b_X9_end
  refine sm_iload_n (pc := 0) (n := 1) dX9_end_0 rfl ?_
  refine sm_i2l (pc := 1) dX9_end_1 ?_
  refine sm_lconst (pc := 2) dX9_end_2 zc_l_0 ?_
  refine sm_aload_n (pc := 3) (n := 0) dX9_end_3 rfl ?_
  refine gf_X9_347 (pc := 4) rfl dX9_end_4 ?_
  refine sm_i2l (pc := 7) dX9_end_7 ?_
  refine sm_cS (pc := 8) (n := 3) (mc := 0) (ms := 0) m_X9_isIn (cr_X9_283 (X := X_X9_end) (fr := 2) (frc := 1) (pc := 8) (mc := 0) (ms := 0) rfl (by decide) dX9_end_8) ?_
  refine sm_if_ne (pc := 11) (tgt := 16) dX9_end_11 (by decide) ?_ ?_
  · skip
    refine sm_aload_n (pc := 16) (n := 0) dX9_end_16 rfl ?_
    refine sm_iload_n (pc := 17) (n := 1) dX9_end_17 rfl ?_
    refine pf_X9_347 (pc := 18) rfl dX9_end_18 ?_
    refine sm_iconst (pc := 21) dX9_end_21 zc_i_1 ?_
    exact sm_zreturn (pc := 22) dX9_end_22 rfl
  · skip
    refine sm_iconst (pc := 14) dX9_end_14 zc_i_0 ?_
    exact sm_zreturn (pc := 15) dX9_end_15 rfl
noncomputable def f_X9_end {d : Nat} : List zV → zH d → zP d → Bool := zfn 2 b_X9_end
theorem m_X9_end {d : Nat} : zMet (d := d) X_X9_end yX9_end 2 f_X9_end := zmet_mk (X := X_X9_end) (by decide) rfl rfl s_X9_end

abbrev X_X9_fault : zM := (RX9, cX9_fault, 2, (some .int), "fault")
noncomputable def bX9_fault_61 {d : Nat} (P : zP d) : zK d := (xiret P)
set_option maxRecDepth 100000 in
set_option maxHeartbeats 4000000 in
theorem sbX9_fault_61 {d : Nat} [zGh] (P : zP d) : zSim X_X9_fault 2 P 61 (bX9_fault_61 P) := by
  unfold bX9_fault_61
  exact sm_ireturn (pc := 61) dX9_fault_61 rfl
noncomputable def cX9_fault_57 {d : Nat} (P : zP d) (j61 : zK d) : zK d := j61
set_option maxRecDepth 100000 in
set_option maxHeartbeats 4000000 in
theorem scX9_fault_57 {d : Nat} [zGh] (P : zP d) (j61 : zK d) (hj61 : zSim X_X9_fault 2 P 61 j61) : zSim X_X9_fault 2 P 57 (cX9_fault_57 P j61) := by
  unfold cX9_fault_57
  refine sm_goto (pc := 57) (tgt := 61) dX9_fault_57 (by decide) ?_
  exact hj61
noncomputable def b_X9_fault {d : Nat} (P : zP d) : zK d := (xild 1 (xif0 t0eq (xald 0 (xgfI 25 48 (xiret P))) (xild 1 (xpI 1 (xcmp Nat.beq (xald 0 (xgfI 25 49 (xiret P))) (xild 1 (xpI 2 (xcmp Nat.beq (xald 0 (xgfI 25 50 (xiret P))) (xild 1 (xi2l (xpL 10 (xpI 9 (xald 0 (xgfI 25 50 (xbin zadd (xi2l (xcS 3 0 0 f_X9_isIn (xjoin (bX9_fault_61 P) (fun j61 => (xif0 t0eq (xpI 4294967295 j61) (xald 0 (xgfR 25 51 (xild 1 (xpI 10 (xbin zsub (xald1 0 (cX9_fault_57 P j61)))))))))))))))))))))))))))
set_option maxRecDepth 100000 in
set_option maxHeartbeats 4000000 in
theorem s_X9_fault {d : Nat} [zGh] (P : zP d) : zSim X_X9_fault 2 P 0 (b_X9_fault P) := by
  unfold b_X9_fault
  refine sm_iload_n (pc := 0) (n := 1) dX9_fault_0 rfl ?_
  refine sm_if_ne (pc := 1) (tgt := 9) dX9_fault_1 (by decide) ?_ ?_
  · skip
    refine sm_iload_n (pc := 9) (n := 1) dX9_fault_9 rfl ?_
    refine sm_iconst (pc := 10) dX9_fault_10 zc_i_1 ?_
    refine sm_icmp_ne (pc := 11) (tgt := 19) dX9_fault_11 (by decide) ?_ ?_
    · skip
      refine sm_iload_n (pc := 19) (n := 1) dX9_fault_19 rfl ?_
      refine sm_iconst (pc := 20) dX9_fault_20 zc_i_2 ?_
      refine sm_icmp_ne (pc := 21) (tgt := 29) dX9_fault_21 (by decide) ?_ ?_
      · skip
        refine sm_iload_n (pc := 29) (n := 1) dX9_fault_29 rfl ?_
        refine sm_i2l (pc := 30) dX9_fault_30 ?_
        refine sm_ldc2 (pc := 31) dX9_fault_31 wd_1427 zc_cl_10 ?_
        refine sm_bipush (pc := 34) dX9_fault_34 zc_b_9 ?_
        refine sm_aload_n (pc := 36) (n := 0) dX9_fault_36 rfl ?_
        refine gf_X9_361 (pc := 37) rfl dX9_fault_37 ?_
        refine sm_iadd (pc := 40) dX9_fault_40 ?_
        refine sm_i2l (pc := 41) dX9_fault_41 ?_
        refine sm_cS (pc := 42) (n := 3) (mc := 0) (ms := 0) m_X9_isIn (cr_X9_283 (X := X_X9_fault) (fr := 2) (frc := 1) (pc := 42) (mc := 0) (ms := 0) rfl (by decide) dX9_fault_42) ?_
        refine sm_join (pc := 45) (pc' := 61) (sbX9_fault_61 P) (fun j61 hj61 => ?_)
        refine sm_if_eq (pc := 45) (tgt := 60) dX9_fault_45 (by decide) ?_ ?_
        · skip
          refine sm_iconst (pc := 60) dX9_fault_60 zc_i_m1 ?_
          exact hj61
        · skip
          refine sm_aload_n (pc := 48) (n := 0) dX9_fault_48 rfl ?_
          refine gf_X9_128 (pc := 49) rfl dX9_fault_49 ?_
          refine sm_iload_n (pc := 52) (n := 1) dX9_fault_52 rfl ?_
          refine sm_bipush (pc := 53) dX9_fault_53 zc_b_10 ?_
          refine sm_isub (pc := 55) dX9_fault_55 ?_
          refine sm_iaload (pc := 56) dX9_fault_56 ?_
          exact scX9_fault_57 P j61 hj61
      · skip
        refine sm_aload_n (pc := 24) (n := 0) dX9_fault_24 rfl ?_
        refine gf_X9_361 (pc := 25) rfl dX9_fault_25 ?_
        exact sm_ireturn (pc := 28) dX9_fault_28 rfl
    · skip
      refine sm_aload_n (pc := 14) (n := 0) dX9_fault_14 rfl ?_
      refine gf_X9_124 (pc := 15) rfl dX9_fault_15 ?_
      exact sm_ireturn (pc := 18) dX9_fault_18 rfl
  · skip
    refine sm_aload_n (pc := 4) (n := 0) dX9_fault_4 rfl ?_
    refine gf_X9_356 (pc := 5) rfl dX9_fault_5 ?_
    exact sm_ireturn (pc := 8) dX9_fault_8 rfl
noncomputable def f_X9_fault {d : Nat} : List zV → zH d → zP d → Bool := zfn 2 b_X9_fault
theorem m_X9_fault {d : Nat} : zMet (d := d) X_X9_fault yX9_fault 2 f_X9_fault := zmet_mk (X := X_X9_fault) (by decide) rfl rfl s_X9_fault

abbrev X_X9_look : zM := (RX9, cX9_look, 5, (some .int), "look")
noncomputable def bX9_look_187 {d : Nat} (P : zP d) : zK d := (xpI 4294967295 (xiret P))
set_option maxRecDepth 100000 in
set_option maxHeartbeats 4000000 in
theorem sbX9_look_187 {d : Nat} [zGh] (P : zP d) : zSim X_X9_look 2 P 187 (bX9_look_187 P) := by
  unfold bX9_look_187
  refine sm_iconst (pc := 187) dX9_look_187 zc_i_m1 ?_
  exact sm_ireturn (pc := 188) dX9_look_188 rfl
noncomputable def bX9_look_148 {d : Nat} (P : zP d) : zK d := (xald 0 (xgfI 25 0 (xiret P)))
set_option maxRecDepth 100000 in
set_option maxHeartbeats 4000000 in
theorem sbX9_look_148 {d : Nat} [zGh] (P : zP d) : zSim X_X9_look 2 P 148 (bX9_look_148 P) := by
  unfold bX9_look_148
  refine sm_aload_n (pc := 148) (n := 0) dX9_look_148 rfl ?_
  refine gf_X9_169 (pc := 149) rfl dX9_look_149 ?_
  exact sm_ireturn (pc := 152) dX9_look_152 rfl
noncomputable def bX9_look_153 {d : Nat} (P : zP d) : zK d := (xald 0 (xgfI 25 1 (xiret P)))
set_option maxRecDepth 100000 in
set_option maxHeartbeats 4000000 in
theorem sbX9_look_153 {d : Nat} [zGh] (P : zP d) : zSim X_X9_look 2 P 153 (bX9_look_153 P) := by
  unfold bX9_look_153
  refine sm_aload_n (pc := 153) (n := 0) dX9_look_153 rfl ?_
  refine gf_X9_184 (pc := 154) rfl dX9_look_154 ?_
  exact sm_ireturn (pc := 157) dX9_look_157 rfl
noncomputable def bX9_look_158 {d : Nat} (P : zP d) : zK d := (xald 0 (xgfI 25 2 (xiret P)))
set_option maxRecDepth 100000 in
set_option maxHeartbeats 4000000 in
theorem sbX9_look_158 {d : Nat} [zGh] (P : zP d) : zSim X_X9_look 2 P 158 (bX9_look_158 P) := by
  unfold bX9_look_158
  refine sm_aload_n (pc := 158) (n := 0) dX9_look_158 rfl ?_
  refine gf_X9_153 (pc := 159) rfl dX9_look_159 ?_
  exact sm_ireturn (pc := 162) dX9_look_162 rfl
noncomputable def bX9_look_163 {d : Nat} (P : zP d) : zK d := (xald 0 (xgfI 25 11 (xiret P)))
set_option maxRecDepth 100000 in
set_option maxHeartbeats 4000000 in
theorem sbX9_look_163 {d : Nat} [zGh] (P : zP d) : zSim X_X9_look 2 P 163 (bX9_look_163 P) := by
  unfold bX9_look_163
  refine sm_aload_n (pc := 163) (n := 0) dX9_look_163 rfl ?_
  refine gf_X9_172 (pc := 164) rfl dX9_look_164 ?_
  exact sm_ireturn (pc := 167) dX9_look_167 rfl
noncomputable def bX9_look_168 {d : Nat} (P : zP d) : zK d := (xald 0 (xgfI 25 18 (xiret P)))
set_option maxRecDepth 100000 in
set_option maxHeartbeats 4000000 in
theorem sbX9_look_168 {d : Nat} [zGh] (P : zP d) : zSim X_X9_look 2 P 168 (bX9_look_168 P) := by
  unfold bX9_look_168
  refine sm_aload_n (pc := 168) (n := 0) dX9_look_168 rfl ?_
  refine gf_X9_199 (pc := 169) rfl dX9_look_169 ?_
  exact sm_ireturn (pc := 172) dX9_look_172 rfl
noncomputable def bX9_look_173 {d : Nat} (P : zP d) : zK d := (xald 0 (xgfI 25 12 (xiret P)))
set_option maxRecDepth 100000 in
set_option maxHeartbeats 4000000 in
theorem sbX9_look_173 {d : Nat} [zGh] (P : zP d) : zSim X_X9_look 2 P 173 (bX9_look_173 P) := by
  unfold bX9_look_173
  refine sm_aload_n (pc := 173) (n := 0) dX9_look_173 rfl ?_
  refine gf_X9_166 (pc := 174) rfl dX9_look_174 ?_
  exact sm_ireturn (pc := 177) dX9_look_177 rfl
noncomputable def bX9_look_178 {d : Nat} (P : zP d) : zK d := (xald 0 (xgfI 25 46 (xiret P)))
set_option maxRecDepth 100000 in
set_option maxHeartbeats 4000000 in
theorem sbX9_look_178 {d : Nat} [zGh] (P : zP d) : zSim X_X9_look 2 P 178 (bX9_look_178 P) := by
  unfold bX9_look_178
  refine sm_aload_n (pc := 178) (n := 0) dX9_look_178 rfl ?_
  refine gf_X9_347 (pc := 179) rfl dX9_look_179 ?_
  exact sm_ireturn (pc := 182) dX9_look_182 rfl
noncomputable def bX9_look_183 {d : Nat} (P : zP d) : zK d := (xild 2 (xiret P))
set_option maxRecDepth 100000 in
set_option maxHeartbeats 4000000 in
theorem sbX9_look_183 {d : Nat} [zGh] (P : zP d) : zSim X_X9_look 2 P 183 (bX9_look_183 P) := by
  unfold bX9_look_183
  refine sm_iload_n (pc := 183) (n := 2) dX9_look_183 rfl ?_
  exact sm_ireturn (pc := 184) dX9_look_184 rfl
noncomputable def bX9_look_185 {d : Nat} (P : zP d) : zK d := (xild 3 (xiret P))
set_option maxRecDepth 100000 in
set_option maxHeartbeats 4000000 in
theorem sbX9_look_185 {d : Nat} [zGh] (P : zP d) : zSim X_X9_look 2 P 185 (bX9_look_185 P) := by
  unfold bX9_look_185
  refine sm_iload_n (pc := 185) (n := 3) dX9_look_185 rfl ?_
  exact sm_ireturn (pc := 186) dX9_look_186 rfl
noncomputable def bX9_look_87 {d : Nat} (P : zP d) (r57 : zK d) : zK d := (xcS 1 0 0 f_X9_one (xbin zadd (xist 3 (xinc 4 1 r57))))
set_option maxRecDepth 100000 in
set_option maxHeartbeats 4000000 in
theorem sbX9_look_87 {d : Nat} [zGh] (P : zP d) (r57 : zK d) (hr57 : zSim X_X9_look 2 P 57 r57) : zSim X_X9_look 2 P 87 (bX9_look_87 P r57) := by
  unfold bX9_look_87
  refine sm_cS (pc := 87) (n := 1) (mc := 0) (ms := 0) m_X9_one (cr_X9_187 (X := X_X9_look) (fr := 2) (frc := 1) (pc := 87) (mc := 0) (ms := 0) rfl (by decide) dX9_look_87) ?_
  refine sm_iadd (pc := 90) dX9_look_90 ?_
  refine sm_istore_n (pc := 91) (n := 3) dX9_look_91 rfl ?_
  refine sm_iinc (pc := 92) (n := 4) dX9_look_92 zc_i_1 ?_
  refine sm_goto (pc := 95) (tgt := 57) dX9_look_95 (by decide) ?_
  exact hr57
noncomputable def lX9_look_57 {d : Nat} (P : zP d) (r57 : zK d) : zK d := (xild 4 (xald 0 (xgfI 25 18 (xcmp tge (xild 1 (xtsw [(bX9_look_148 P), (bX9_look_153 P), (bX9_look_158 P), (bX9_look_163 P), (bX9_look_168 P), (bX9_look_173 P), (bX9_look_178 P), (bX9_look_183 P), (bX9_look_185 P)] (bX9_look_187 P))) (xild 3 (xald 0 (xgfR 25 15 (xald 0 (xgfR 25 19 (xild 4 (xald1 0 (xald1 0 (xjoin (bX9_look_87 P r57) (fun j87 => (xif0 t0eq (xpI 1 j87) (xpI 0 j87))))))))))))))))
set_option maxRecDepth 100000 in
set_option maxHeartbeats 4000000 in
theorem slX9_look_57 {d : Nat} [zGh] (P : zP d) (r57 : zK d) (hr57 : zSim X_X9_look 2 P 57 r57) : zSim X_X9_look 2 P 57 (lX9_look_57 P r57) := by
  unfold lX9_look_57
  refine sm_iload (pc := 57) (n := 4) dX9_look_57 ?_
  refine sm_aload_n (pc := 59) (n := 0) dX9_look_59 rfl ?_
  refine gf_X9_199 (pc := 60) rfl dX9_look_60 ?_
  refine sm_icmp_ge (pc := 63) (tgt := 98) dX9_look_63 (by decide) ?_ ?_
  · skip
    refine sm_iload_n (pc := 98) (n := 1) dX9_look_98 rfl ?_
    refine sm_tsw2 (pc := 99) (n := 8) (tdf := 187) [148, 153, 158, 163, 168, 173, 178, 183, 185] rfl (by decide) dX9_look_99 rfl (by decide +kernel) (by decide) (sbX9_look_187 P) (fun i k t hk ht => ?_)
    match i, hk, ht with
    | 0, hk, ht => cases hk; cases ht; exact sbX9_look_148 P
    | 1, hk, ht => cases hk; cases ht; exact sbX9_look_153 P
    | 2, hk, ht => cases hk; cases ht; exact sbX9_look_158 P
    | 3, hk, ht => cases hk; cases ht; exact sbX9_look_163 P
    | 4, hk, ht => cases hk; cases ht; exact sbX9_look_168 P
    | 5, hk, ht => cases hk; cases ht; exact sbX9_look_173 P
    | 6, hk, ht => cases hk; cases ht; exact sbX9_look_178 P
    | 7, hk, ht => cases hk; cases ht; exact sbX9_look_183 P
    | 8, hk, ht => cases hk; cases ht; exact sbX9_look_185 P
    | i + 9, hk, ht => cases hk
  · skip
    refine sm_iload_n (pc := 66) (n := 3) dX9_look_66 rfl ?_
    refine sm_aload_n (pc := 67) (n := 0) dX9_look_67 rfl ?_
    refine gf_X9_41 (pc := 68) rfl dX9_look_68 ?_
    refine sm_aload_n (pc := 71) (n := 0) dX9_look_71 rfl ?_
    refine gf_X9_50 (pc := 72) rfl dX9_look_72 ?_
    refine sm_iload (pc := 75) (n := 4) dX9_look_75 ?_
    refine sm_iaload (pc := 77) dX9_look_77 ?_
    refine sm_iaload (pc := 78) dX9_look_78 ?_
    refine sm_join (pc := 79) (pc' := 87) (sbX9_look_87 P r57 hr57) (fun j87 hj87 => ?_)
    refine sm_if_ne (pc := 79) (tgt := 86) dX9_look_79 (by decide) ?_ ?_
    · skip
      refine sm_iconst (pc := 86) dX9_look_86 zc_i_0 ?_
      exact hj87
    · skip
      refine sm_iconst (pc := 82) dX9_look_82 zc_i_1 ?_
      refine sm_goto (pc := 83) (tgt := 87) dX9_look_83 (by decide) ?_
      exact hj87
noncomputable def bX9_look_48 {d : Nat} (P : zP d) (r7 : zK d) : zK d := (xinc 4 1 r7)
set_option maxRecDepth 100000 in
set_option maxHeartbeats 4000000 in
theorem sbX9_look_48 {d : Nat} [zGh] (P : zP d) (r7 : zK d) (hr7 : zSim X_X9_look 2 P 7 r7) : zSim X_X9_look 2 P 48 (bX9_look_48 P r7) := by
  unfold bX9_look_48
  refine sm_iinc (pc := 48) (n := 4) dX9_look_48 zc_i_1 ?_
  refine sm_goto (pc := 51) (tgt := 7) dX9_look_51 (by decide) ?_
  exact hr7
noncomputable def lX9_look_7 {d : Nat} (P : zP d) (r7 : zK d) : zK d := (xild 4 (xpI 66 (xcmp tge (xpI 0 (xist 4 (xloop (fun r57 => (lX9_look_57 P r57)) 100000))) (xild 4 (xpI 11 (xbinN zrem (xald 0 (xgfI 25 2 (xjoin (bX9_look_48 P r7) (fun j48 => (xcmp tge j48 (xald 0 (xgfR 25 43 (xild 4 (xlal (xpL 0 (xlcmp (xif0 t0eq j48 (xild 2 (xpI 1 (xild 4 (xpI 11 (xbinN zdiv (xbin zshl (xbin zor (xist 2 j48))))))))))))))))))))))))))
set_option maxRecDepth 100000 in
set_option maxHeartbeats 4000000 in
theorem slX9_look_7 {d : Nat} [zGh] (P : zP d) (r7 : zK d) (hr7 : zSim X_X9_look 2 P 7 r7) : zSim X_X9_look 2 P 7 (lX9_look_7 P r7) := by
  unfold lX9_look_7
  refine sm_iload (pc := 7) (n := 4) dX9_look_7 ?_
  refine sm_bipush (pc := 9) dX9_look_9 zc_b_66 ?_
  refine sm_icmp_ge (pc := 11) (tgt := 54) dX9_look_11 (by decide) ?_ ?_
  · skip
    refine sm_iconst (pc := 54) dX9_look_54 zc_i_0 ?_
    refine sm_istore (pc := 55) (n := 4) dX9_look_55 ?_
    exact sm_loop (fun r57 hr57 => slX9_look_57 P r57 hr57) _
  · skip
    refine sm_iload (pc := 14) (n := 4) dX9_look_14 ?_
    refine sm_bipush (pc := 16) dX9_look_16 zc_b_11 ?_
    refine sm_irem (pc := 18) dX9_look_18 ?_
    refine sm_aload_n (pc := 19) (n := 0) dX9_look_19 rfl ?_
    refine gf_X9_153 (pc := 20) rfl dX9_look_20 ?_
    refine sm_join (pc := 23) (pc' := 48) (sbX9_look_48 P r7 hr7) (fun j48 hj48 => ?_)
    refine sm_icmp_ge (pc := 23) (tgt := 48) dX9_look_23 (by decide) ?_ ?_
    · skip
      exact hj48
    · skip
      refine sm_aload_n (pc := 26) (n := 0) dX9_look_26 rfl ?_
      refine gf_X9_115 (pc := 27) rfl dX9_look_27 ?_
      refine sm_iload (pc := 30) (n := 4) dX9_look_30 ?_
      refine sm_laload (pc := 32) dX9_look_32 ?_
      refine sm_lconst (pc := 33) dX9_look_33 zc_l_0 ?_
      refine sm_lcmp (pc := 34) dX9_look_34 ?_
      refine sm_if_eq (pc := 35) (tgt := 48) dX9_look_35 (by decide) ?_ ?_
      · skip
        exact hj48
      · skip
        refine sm_iload_n (pc := 38) (n := 2) dX9_look_38 rfl ?_
        refine sm_iconst (pc := 39) dX9_look_39 zc_i_1 ?_
        refine sm_iload (pc := 40) (n := 4) dX9_look_40 ?_
        refine sm_bipush (pc := 42) dX9_look_42 zc_b_11 ?_
        refine sm_idiv (pc := 44) dX9_look_44 ?_
        refine sm_ishl (pc := 45) dX9_look_45 ?_
        refine sm_ior (pc := 46) dX9_look_46 ?_
        refine sm_istore_n (pc := 47) (n := 2) dX9_look_47 rfl ?_
        exact hj48
noncomputable def b_X9_look {d : Nat} (P : zP d) : zK d := (xpI 0 (xist 2 (xpI 0 (xist 3 (xpI 0 (xist 4 (xloop (fun r7 => (lX9_look_7 P r7)) 100000)))))))
set_option maxRecDepth 100000 in
set_option maxHeartbeats 4000000 in
theorem s_X9_look {d : Nat} [zGh] (P : zP d) : zSim X_X9_look 2 P 0 (b_X9_look P) := by
  unfold b_X9_look
  refine sm_iconst (pc := 0) dX9_look_0 zc_i_0 ?_
  refine sm_istore_n (pc := 1) (n := 2) dX9_look_1 rfl ?_
  refine sm_iconst (pc := 2) dX9_look_2 zc_i_0 ?_
  refine sm_istore_n (pc := 3) (n := 3) dX9_look_3 rfl ?_
  refine sm_iconst (pc := 4) dX9_look_4 zc_i_0 ?_
  refine sm_istore (pc := 5) (n := 4) dX9_look_5 ?_
  exact sm_loop (fun r7 hr7 => slX9_look_7 P r7 hr7) _
noncomputable def f_X9_look {d : Nat} : List zV → zH d → zP d → Bool := zfn 5 b_X9_look
theorem m_X9_look {d : Nat} : zMet (d := d) X_X9_look yX9_look 2 f_X9_look := zmet_mk (X := X_X9_look) (by decide) rfl rfl s_X9_look
end
section
/-! Math.abs of a long; a recursion of four methods -/
def zabsj (a : Nat) : Nat := cond (Nat.ble 18446744073709551616 a) 18446744073709551616 (cond (Nat.ble 9223372036854775808 a) (Nat.mod (Nat.sub 18446744073709551616 a) 18446744073709551616) a)
theorem zabsj_ok {a : Nat} {x : Int64} (hx : a < 18446744073709551616 → zj x = a) : zabsj a < 18446744073709551616 → zj (if 0 < x then x else -x) = zabsj a := by
  have h0 : (0 : Int64).toInt = 0 := rfl
  have hl := zj_lt x
  unfold zabsj
  cases hb : Nat.ble 18446744073709551616 a
  · intro _
    have e := hx (zble_f hb)
    rw [cond_false]
    cases hc : Nat.ble 9223372036854775808 a
    · have h1 := zble_f hc
      rw [cond_false]
      by_cases q : 0 < x
      · rw [if_pos q]
        exact e
      · rw [if_neg q, zj_neg, e]
        rw [Int64.lt_iff_toInt_lt, h0] at q
        have : a = 0 := by rcases zj_cases x with ⟨c1, c2⟩ | ⟨c1, c2⟩ <;> omega
        subst this
        rfl
    · have h1 := Nat.le_of_ble_eq_true hc
      rw [cond_true]
      have q : ¬ 0 < x := fun q => by
        rw [Int64.lt_iff_toInt_lt, h0] at q
        rcases zj_cases x with ⟨c1, c2⟩ | ⟨c1, c2⟩ <;> omega
      rw [if_neg q, zj_neg, e]
      rfl
  · rw [cond_true]
    intro q
    exact absurd q (Nat.lt_irrefl _)
theorem zabsj_lt (a : Nat) : zabsj a < 4722366482869645213696 := by
  unfold zabsj
  cases h1 : Nat.ble 18446744073709551616 a
  · cases h2 : Nat.ble 9223372036854775808 a
    · exact Nat.lt_trans (zble_f h2) (by decide)
    · exact zmodj_lt _
  · exact (by decide : (18446744073709551616 : Nat) < 4722366482869645213696)
theorem zmet_rec4 {d : Nat} {X : zM} {y : MethodName} {fr : Nat} {body : (List zV → zH d → zP d → Bool) → zP d → zK d} (hy : plainName y.cls = true) (h1 : X.1 = y.cls) (h2 : X.2.2.2.2 = y.name) (hs : ∀ n f, zMet X y (fr + 4 * n) f → ∀ [zGh] P, zSim X (fr + 4 * n + 4) P 0 (body f P)) : ∀ n, zMet X y (fr + 4 * n) (zrec X.2.2.1 body n)
  | 0 => fun l cA D ws av as h P sz hf => by cases hf
  | n + 1 => by
    rw [show fr + 4 * (n + 1) = fr + 4 * n + 4 by omega]
    exact zmet_mk hy h1 h2 (hs n _ (zmet_rec4 hy h1 h2 hs n))
section OPS
variable {d : Nat} {X : zM} {fr : Nat} {P : zP d} {pc : Nat} {k : zK d}
noncomputable def xabsj (k : zK d) : zK d := fun L S h => zpL S (fun a S => zle4 S (zF (fun v => k L (zL v :: S) h) (zabsj a)))
theorem sm_mabsj [G : zGh] {index : Nat} (hlink : Cond.methodLink X.1 index Lib.MathLoose.abs_long.x ∈ ztbl) (hstat : Cond.static Lib.MathLoose.abs_long.x ∈ ztbl) (hini : Cond.initialized "java/lang/Math" ∈ ztbl) (hcode : Cond.code Lib.MathLoose.abs_long.x Lib.MathLoose.abs_long.code 2 (some .long) ∈ ztbl) (hfr : 1 ≤ fr) (dg : decode X.2.1 pc = .ok (.invokestatic index, 3)) (hs : zSim X fr P (pc + 3) k) : zSim X fr P pc (xabsj k) := by
  intro Ch cA D ad0 A MC MS p l e s m args below meth c ls st H locs cells slots L S h Cx hk R0
  obtain ⟨ws, hHp, hpre, hP, hD, hS, hL, hst, hcb, hsb⟩ := R0
  obtain ⟨a, S, rfl, hk2⟩ := zpL_t hk
  obtain ⟨x, st, rfl, hx, hst2⟩ := zRepL_L hst
  obtain ⟨h4, hk3⟩ := zle4_t hk2
  have hk3 : zF (fun v => k L (zL v :: S) h) (zabsj a) = true := hk3
  rw [zF_eq] at hk3
  have hcat := zcat hst2
  exact va_mabs_long Cx.1 Cx.2.1 (by rw [Cx.2.2.1]; exact hL.2.choose_spec.1.1.symm) Cx.2.2.2.1 (Cx.2.2.2.2.1 _ hlink) (Cx.2.2.2.2.1 _ hstat) (Cx.2.2.2.2.1 _ hini) (Cx.2.2.2.2.1 _ hcode) hfr (by show (st.map fun v => v.category).sum + 13 ≤ 64 * fr; omega) (by show cells ≤ MC; omega) (by show slots ≤ MS; omega) dg (hs Ch cA D ad0 A MC MS p l e s m args below meth c ls _ H locs cells slots L _ h Cx hk3 ⟨ws, hHp, hpre, hP, hD, hS, hL, ⟨⟨_, rfl, zJs_of (zabsj_ok hx.1) (zabsj_lt _)⟩, hst2⟩, hcb, hsb⟩)
end OPS
end
