/-! group of the reference, any numbers, by program -/
noncomputable def bX9_groupb_33 {d : Nat} (P : zP d) : zK d := (xpI 4294967295 (xiret P))
set_option maxRecDepth 100000 in
set_option maxHeartbeats 4000000 in
theorem sbX9_groupb_33 {d : Nat} [zGh] (P : zP d) : zSim X_X9_group 21 P 33 (bX9_groupb_33 P) := by
  unfold bX9_groupb_33
  refine sm_iconst (pc := 33) dX9_group_33 zc_i_m1 ?_
  exact sm_ireturn (pc := 34) dX9_group_34 rfl
noncomputable def bX9_groupb_35 {d : Nat} (P : zP d) : zK d := (xald 0 (xild 1 (xild 2 (xcV 25 3 0 0 (zstr gs_X9_lays) (xald 0 (xgfI 25 2 (xiret P)))))))
set_option maxRecDepth 100000 in
set_option maxHeartbeats 4000000 in
theorem sbX9_groupb_35 {d : Nat} [zGh] (P : zP d) : zSim X_X9_group 21 P 35 (bX9_groupb_35 P) := by
  unfold bX9_groupb_35
  refine sm_aload_n (pc := 35) (n := 0) dX9_group_35 rfl ?_
  refine sm_iload_n (pc := 36) (n := 1) dX9_group_36 rfl ?_
  refine sm_iload_n (pc := 37) (n := 2) dX9_group_37 rfl ?_
  refine sm_cV (pc := 38) (ci := 9) (n := 3) (mc := 0) (ms := 0) rfl (zMet_str mgs_X9_lays) (cr_X9_149 (X := X_X9_group) (fr := 21) (frc := 20) (pc := 38) (mc := 0) (ms := 0) rfl (by decide) dX9_group_38) ?_
  refine sm_aload_n (pc := 41) (n := 0) dX9_group_41 rfl ?_
  refine gf_X9_153 (pc := 42) rfl dX9_group_42 ?_
  exact sm_ireturn (pc := 45) dX9_group_45 rfl
noncomputable def b_X9_groupb {d : Nat} (P : zP d) : zK d := (xild 1 (xi2lR (xpL 1 (xpL 6 (xcS 3 0 0 (zstr f_X9_isIna) (xjoin (bX9_groupb_33 P) (fun j33 => (xif0S teqR rlEq rhEq rlNe rhNe j33 (xild 2 (xpI 2 (xjoin (bX9_groupb_35 P) (fun j35 => (xcmpS teqR rlEq rhEq rlNe rhNe j35 (xild 2 (xpI 3 (xcmpS teqR rlEq rhEq rlNe rhNe j35 (xild 2 (xpI 5 (xcmpS teqR rlEq rhEq rlNe rhNe j35 (xild 2 (xpI 7 (xcmpS teqR rlEq rhEq rlNe rhNe j35 j33))))))))))))))))))))))
set_option maxRecDepth 100000 in
set_option maxHeartbeats 4000000 in
theorem s_X9_groupb {d : Nat} [zGh] (P : zP d) : zSim X_X9_group 21 P 0 (b_X9_groupb P) := by
  unfold b_X9_groupb
  refine sm_iload_n (pc := 0) (n := 1) dX9_group_0 rfl ?_
  refine sm_i2lR (pc := 1) dX9_group_1 ?_
  refine sm_lconst (pc := 2) dX9_group_2 zc_l_1 ?_
  refine sm_ldc2 (pc := 3) dX9_group_3 wd_1212 zc_cl_6 ?_
  refine sm_cS (pc := 6) (n := 3) (mc := 0) (ms := 0) (zMet_str m_X9_isIna) (cr_X9_283 (X := X_X9_group) (fr := 21) (frc := 1) (pc := 6) (mc := 0) (ms := 0) rfl (by decide) dX9_group_6) ?_
  refine sm_joinJ (pc := 9) (pc' := 33) (j := 1) (fun G0 hG0 => @sbX9_groupb_33 d G0 P) (fun j33 hj33 => ?_)
  refine sm_ifS_eq (pc := 9) (tgt := 33) dX9_group_9 (by decide) ?_ ?_
  · skip
    exact hj33.use
  · skip
    refine sm_iload_n (pc := 12) (n := 2) dX9_group_12 rfl ?_
    refine sm_iconst (pc := 13) dX9_group_13 zc_i_2 ?_
    refine sm_joinJ (pc := 14) (pc' := 35) (j := 1) (fun G0 hG0 => @sbX9_groupb_35 d G0 P) (fun j35 hj35 => ?_)
    refine sm_icmpS_eq (pc := 14) (tgt := 35) dX9_group_14 (by decide) ?_ ?_
    · skip
      exact hj35.use
    · skip
      refine sm_iload_n (pc := 17) (n := 2) dX9_group_17 rfl ?_
      refine sm_iconst (pc := 18) dX9_group_18 zc_i_3 ?_
      refine sm_icmpS_eq (pc := 19) (tgt := 35) dX9_group_19 (by decide) ?_ ?_
      · skip
        exact hj35.use
      · skip
        refine sm_iload_n (pc := 22) (n := 2) dX9_group_22 rfl ?_
        refine sm_iconst (pc := 23) dX9_group_23 zc_i_5 ?_
        refine sm_icmpS_eq (pc := 24) (tgt := 35) dX9_group_24 (by decide) ?_ ?_
        · skip
          exact hj35.use
        · skip
          refine sm_iload_n (pc := 27) (n := 2) dX9_group_27 rfl ?_
          refine sm_bipush (pc := 28) dX9_group_28 zc_b_7 ?_
          refine sm_icmpS_eq (pc := 30) (tgt := 35) dX9_group_30 (by decide) ?_ ?_
          · skip
            exact hj35.use
          · skip
            exact hj33.use
noncomputable def f_X9_groupb {d : Nat} : List zV → zH d → zP d → Bool := zfn 3 b_X9_groupb
theorem m_X9_groupb {d : Nat} : zMet (d := d) X_X9_group yX9_group 21 f_X9_groupb := zmet_mk (X := X_X9_group) (by decide) rfl rfl s_X9_groupb
