/-! the reference, by program -/
abbrev X_X9_beadsOf : zM := (RX9, cX9_beadsOf, 4, (some .int), "beadsOf")
noncomputable def lX9_beadsOf_4 {d : Nat} (P : zP d) (r4 : zK d) : zK d := (xild 3 (xpI 6 (xcmp tge (xild 2 (xiret P)) (xild 2 (xpI 1 (xald 0 (xild 1 (xild 3 (xcV 25 3 0 0 f_X9_partOf (xpI 5 (xbin zadd (xild 3 (xbin zsub (xbin zshl (xbin zor (xist 2 (xinc 3 1 r4)))))))))))))))))
set_option maxRecDepth 100000 in
set_option maxHeartbeats 4000000 in
theorem slX9_beadsOf_4 {d : Nat} (P : zP d) (r4 : zK d) (hr4 : zSim X_X9_beadsOf 2 P 4 r4) : zSim X_X9_beadsOf 2 P 4 (lX9_beadsOf_4 P r4) := by
  unfold lX9_beadsOf_4
  refine sm_iload_n (pc := 4) (n := 3) dX9_beadsOf_4 rfl ?_
  refine sm_bipush (pc := 5) dX9_beadsOf_5 zc_b_6 ?_
  refine sm_icmp_ge (pc := 7) (tgt := 31) dX9_beadsOf_7 (by decide) ?_ ?_
  · skip
    refine sm_iload_n (pc := 31) (n := 2) dX9_beadsOf_31 rfl ?_
    exact sm_ireturn (pc := 32) dX9_beadsOf_32 rfl
  · skip
    refine sm_iload_n (pc := 10) (n := 2) dX9_beadsOf_10 rfl ?_
    refine sm_iconst (pc := 11) dX9_beadsOf_11 zc_i_1 ?_
    refine sm_aload_n (pc := 12) (n := 0) dX9_beadsOf_12 rfl ?_
    refine sm_iload_n (pc := 13) (n := 1) dX9_beadsOf_13 rfl ?_
    refine sm_iload_n (pc := 14) (n := 3) dX9_beadsOf_14 rfl ?_
    refine sm_cV (pc := 15) (ci := 9) (n := 3) (mc := 0) (ms := 0) rfl m_X9_partOf (cr_X9_175 (X := X_X9_beadsOf) (fr := 2) (frc := 1) (pc := 15) (mc := 0) (ms := 0) rfl (by decide) dX9_beadsOf_15) ?_
    refine sm_iconst (pc := 18) dX9_beadsOf_18 zc_i_5 ?_
    refine sm_iadd (pc := 19) dX9_beadsOf_19 ?_
    refine sm_iload_n (pc := 20) (n := 3) dX9_beadsOf_20 rfl ?_
    refine sm_isub (pc := 21) dX9_beadsOf_21 ?_
    refine sm_ishl (pc := 22) dX9_beadsOf_22 ?_
    refine sm_ior (pc := 23) dX9_beadsOf_23 ?_
    refine sm_istore_n (pc := 24) (n := 2) dX9_beadsOf_24 rfl ?_
    refine sm_iinc (pc := 25) (n := 3) dX9_beadsOf_25 zc_i_1 ?_
    refine sm_goto (pc := 28) (tgt := 4) dX9_beadsOf_28 (by decide) ?_
    exact hr4
noncomputable def b_X9_beadsOf {d : Nat} (P : zP d) : zK d := (xpI 0 (xist 2 (xpI 0 (xist 3 (xloop (fun r4 => (lX9_beadsOf_4 P r4)) 100000)))))
set_option maxRecDepth 100000 in
set_option maxHeartbeats 4000000 in
theorem s_X9_beadsOf {d : Nat} (P : zP d) : zSim X_X9_beadsOf 2 P 0 (b_X9_beadsOf P) := by
  unfold b_X9_beadsOf
  refine sm_iconst (pc := 0) dX9_beadsOf_0 zc_i_0 ?_
  refine sm_istore_n (pc := 1) (n := 2) dX9_beadsOf_1 rfl ?_
  refine sm_iconst (pc := 2) dX9_beadsOf_2 zc_i_0 ?_
  refine sm_istore_n (pc := 3) (n := 3) dX9_beadsOf_3 rfl ?_
  exact sm_loop (fun r4 hr4 => slX9_beadsOf_4 P r4 hr4) _
noncomputable def f_X9_beadsOf {d : Nat} : List zV → zH d → zP d → Bool := zfn 4 b_X9_beadsOf
theorem m_X9_beadsOf {d : Nat} : zMet (d := d) X_X9_beadsOf yX9_beadsOf 2 f_X9_beadsOf := zmet_mk (X := X_X9_beadsOf) (by decide) rfl rfl s_X9_beadsOf
