/-! the class by summaries, by program -/
noncomputable def bX5_makeFixeda_83 {d : Nat} (P : zP d) (r14 : zK d) : zK d := (xincR 6 1 r14)
set_option maxRecDepth 100000 in
set_option maxHeartbeats 4000000 in
theorem sbX5_makeFixeda_83 {d : Nat} [zGh] (P : zP d) (r14 : zK d) (hr14 : zSimJ 1 X_X5_makeFixed 4 P 14 r14) : zSim X_X5_makeFixed 4 P 83 (bX5_makeFixeda_83 P r14) := by
  unfold bX5_makeFixeda_83
  refine sm_iincR (pc := 83) (n := 6) dX5_makeFixed_83 zc_i_1 ?_
  refine sm_goto (pc := 86) (tgt := 14) dX5_makeFixed_86 (by decide) ?_
  exact hr14.use
noncomputable def cX5_makeFixeda_64 {d : Nat} (P : zP d) (j83 : zK d) : zK d := (xgfR 21 5 (xild 1 (xalQ 0 (xald 5 (xald 2 (xald 5 (xgfR 20 7 (xald 3 (xcS 4 0 0 (zstr gs_X5_rankOfDifference) (xbin zsubR (xasQ 0 (fun v => v) j83)))))))))))
set_option maxRecDepth 100000 in
set_option maxHeartbeats 4000000 in
theorem scX5_makeFixeda_64 {d : Nat} [zGh] (P : zP d) (j83 : zK d) (hj83 : zSimJ 1 X_X5_makeFixed 4 P 83 j83) : zSim X_X5_makeFixed 4 P 64 (cX5_makeFixeda_64 P j83) := by
  unfold cX5_makeFixeda_64
  refine gf_X5_35 (pc := 64) rfl dX5_makeFixed_64 ?_
  refine sm_iload_n (pc := 67) (n := 1) dX5_makeFixed_67 rfl ?_
  refine sm_ialoadQ (pc := 68) dX5_makeFixed_68 ?_
  refine sm_aload (pc := 69) (n := 5) dX5_makeFixed_69 ?_
  refine sm_aload_n (pc := 71) (n := 2) dX5_makeFixed_71 rfl ?_
  refine sm_aload (pc := 72) (n := 5) dX5_makeFixed_72 ?_
  refine gf_X5_110 (pc := 74) rfl dX5_makeFixed_74 ?_
  refine sm_aload_n (pc := 77) (n := 3) dX5_makeFixed_77 rfl ?_
  refine sm_cS (pc := 78) (n := 4) (mc := 0) (ms := 0) (zMet_str mgs_X5_rankOfDifference) (cr_X5_113 (X := X_X5_makeFixed) (fr := 4) (frc := 3) (pc := 78) (mc := 0) (ms := 0) rfl (by decide) dX5_makeFixed_78) ?_
  refine sm_isubR (pc := 81) dX5_makeFixed_81 ?_
  refine sm_iastoreQ (pc := 82) dX5_makeFixed_82 ?_
  exact hj83.use
noncomputable def lX5_makeFixeda_14 {d : Nat} (P : zP d) (r14 : zK d) : zK d := (xild 6 (xald 0 (xgfR 21 0 (xgfI 23 1 (xcmpS tgeR rlGe rhS rlS rhLt (xvret P) (xald 0 (xgfR 21 4 (xild 6 (xalQ 1 (xjoin (bX5_makeFixeda_83 P r14) (fun j83 => (xif0S teqR rlEq rhEq rlNe rhNe j83 (xald 5 (xald 0 (xgfR 21 0 (xgfR 23 10 (xild 6 (xaaT (xald 0 (xgfR 21 0 (xgfR 23 13 (xald 2 (xcV 20 4 0 0 (zstr gs_X4_makeMovedForms) (xald 4 (xild 6 (xald 0 (cX5_makeFixeda_64 P j83)))))))))))))))))))))))))))
set_option maxRecDepth 100000 in
set_option maxHeartbeats 4000000 in
theorem slX5_makeFixeda_14 {d : Nat} [zGh] (P : zP d) (r14 : zK d) (hr14 : zSimJ 1 X_X5_makeFixed 4 P 14 r14) : zSim X_X5_makeFixed 4 P 14 (lX5_makeFixeda_14 P r14) := by
  unfold lX5_makeFixeda_14
  refine sm_iload (pc := 14) (n := 6) dX5_makeFixed_14 ?_
  refine sm_aload_n (pc := 16) (n := 0) dX5_makeFixed_16 rfl ?_
  refine gf_X5_9 (pc := 17) rfl dX5_makeFixed_17 ?_
  refine gf_X5_19 (pc := 20) rfl dX5_makeFixed_20 ?_
  refine sm_icmpS_ge (pc := 23) (tgt := 89) dX5_makeFixed_23 (by decide) ?_ ?_
  · skip
    exact sm_vreturn (pc := 89) dX5_makeFixed_89 rfl
  · skip
    refine sm_aload_n (pc := 26) (n := 0) dX5_makeFixed_26 rfl ?_
    refine gf_X5_28 (pc := 27) rfl dX5_makeFixed_27 ?_
    refine sm_iload (pc := 30) (n := 6) dX5_makeFixed_30 ?_
    refine sm_baloadQ (pc := 32) dX5_makeFixed_32 ?_
    refine sm_joinJ (pc := 33) (pc' := 83) (j := 1) (fun G0 hG0 => @sbX5_makeFixeda_83 d G0 P r14 (hr14.mv hG0 (by decide))) (fun j83 hj83 => ?_)
    refine sm_ifS_eq (pc := 33) (tgt := 83) dX5_makeFixed_33 (by decide) ?_ ?_
    · skip
      exact hj83.use
    · skip
      refine sm_aload (pc := 36) (n := 5) dX5_makeFixed_36 ?_
      refine sm_aload_n (pc := 38) (n := 0) dX5_makeFixed_38 rfl ?_
      refine gf_X5_9 (pc := 39) rfl dX5_makeFixed_39 ?_
      refine gf_X5_139 (pc := 42) rfl dX5_makeFixed_42 ?_
      refine sm_iload (pc := 45) (n := 6) dX5_makeFixed_45 ?_
      refine sm_aaloadT (pc := 47) dX5_makeFixed_47 ?_
      refine sm_aload_n (pc := 48) (n := 0) dX5_makeFixed_48 rfl ?_
      refine gf_X5_9 (pc := 49) rfl dX5_makeFixed_49 ?_
      refine gf_X5_142 (pc := 52) rfl dX5_makeFixed_52 ?_
      refine sm_aload_n (pc := 55) (n := 2) dX5_makeFixed_55 rfl ?_
      refine sm_cV (pc := 56) (ci := 4) (n := 4) (mc := 0) (ms := 0) rfl (zMet_str mgs_X4_makeMovedForms) (cr_X5_145 (X := X_X5_makeFixed) (fr := 4) (frc := 2) (pc := 56) (mc := 0) (ms := 0) rfl (by decide) dX5_makeFixed_56) ?_
      refine sm_aload (pc := 59) (n := 4) dX5_makeFixed_59 ?_
      refine sm_iload (pc := 61) (n := 6) dX5_makeFixed_61 ?_
      refine sm_aload_n (pc := 63) (n := 0) dX5_makeFixed_63 rfl ?_
      exact scX5_makeFixeda_64 P j83 hj83
noncomputable def b_X5_makeFixeda {d : Nat} (P : zP d) : zK d := (xald 0 (xgfR 21 0 (xgfR 23 3 (xild 1 (xaaT (xast 5 (xpI 0 (xist 6 (xloop (fun r14 => (lX5_makeFixeda_14 P r14)) 100000)))))))))
set_option maxRecDepth 100000 in
set_option maxHeartbeats 4000000 in
theorem s_X5_makeFixeda {d : Nat} [zGh] (P : zP d) : zSim X_X5_makeFixed 4 P 0 (b_X5_makeFixeda P) := by
  unfold b_X5_makeFixeda
  refine sm_aload_n (pc := 0) (n := 0) dX5_makeFixed_0 rfl ?_
  refine gf_X5_9 (pc := 1) rfl dX5_makeFixed_1 ?_
  refine gf_X5_80 (pc := 4) rfl dX5_makeFixed_4 ?_
  refine sm_iload_n (pc := 7) (n := 1) dX5_makeFixed_7 rfl ?_
  refine sm_aaloadT (pc := 8) dX5_makeFixed_8 ?_
  refine sm_astore (pc := 9) (n := 5) dX5_makeFixed_9 ?_
  refine sm_iconst (pc := 11) dX5_makeFixed_11 zc_i_0 ?_
  refine sm_istore (pc := 12) (n := 6) dX5_makeFixed_12 ?_
  exact (sm_loopJ (j := 1) (fun G1 hG1 r14 hr14 => @slX5_makeFixeda_14 d G1 P r14 hr14) _).use
noncomputable def f_X5_makeFixeda {d : Nat} : List zV → zH d → zP d → Bool := zfn 7 b_X5_makeFixeda
theorem m_X5_makeFixeda {d : Nat} : zMet (d := d) X_X5_makeFixed yX5_makeFixed 4 f_X5_makeFixeda := zmet_mk (X := X_X5_makeFixed) (by decide) rfl rfl s_X5_makeFixeda

