/-! the class by summaries, by program -/
noncomputable def cX5_makeProjectivesa_66 {d : Nat} (P : zP d) (r28 : zK d) : zK d := (xalQ 0 (xbin zmulR (xbin zaddR (xasQ 0 (fun v => v) (xincR 3 1 r28)))))
set_option maxRecDepth 100000 in
set_option maxHeartbeats 4000000 in
theorem scX5_makeProjectivesa_66 {d : Nat} [zGh] (P : zP d) (r28 : zK d) (hr28 : zSimJ 4 X_X5_makeProjectives 1 P 28 r28) : zSim X_X5_makeProjectives 1 P 66 (cX5_makeProjectivesa_66 P r28) := by
  unfold cX5_makeProjectivesa_66
  refine sm_ialoadQ (pc := 66) dX5_makeProjectives_66 ?_
  refine sm_imulR (pc := 67) dX5_makeProjectives_67 ?_
  refine sm_iaddR (pc := 68) dX5_makeProjectives_68 ?_
  refine sm_iastoreQ (pc := 69) dX5_makeProjectives_69 ?_
  refine sm_iincR (pc := 70) (n := 3) dX5_makeProjectives_70 zc_i_1 ?_
  refine sm_goto (pc := 73) (tgt := 28) dX5_makeProjectives_73 (by decide) ?_
  exact hr28.use
noncomputable def lX5_makeProjectivesa_28 {d : Nat} (P : zP d) (r15 : zK d) (r28 : zK d) : zK d := (xild 3 (xaldV 0 (xgfR 21 0 (xgfI 23 1 (xcmpS tgeR rlGe rhS rlS rhLt (xincR 2 1 r15) (xaldV 0 (xgfR 21 9 (xild 2 (xaaT (xild 3 (xdup2V (xalQ 0 (xaldV 0 (xgfR 21 7 (xild 1 (xaaT (xild 2 (xalQ 0 (xaldV 0 (xgfR 21 0 (xgfR 23 12 (xild 1 (xaaT (xild 3 (cX5_makeProjectivesa_66 P r28)))))))))))))))))))))))))
set_option maxRecDepth 100000 in
set_option maxHeartbeats 4000000 in
theorem slX5_makeProjectivesa_28 {d : Nat} [zGh] (P : zP d) (r15 : zK d) (r28 : zK d) (hr15 : zSimJ 3 X_X5_makeProjectives 1 P 15 r15) (hr28 : zSimJ 4 X_X5_makeProjectives 1 P 28 r28) : zSim X_X5_makeProjectives 1 P 28 (lX5_makeProjectivesa_28 P r15 r28) := by
  unfold lX5_makeProjectivesa_28
  refine sm_iload_n (pc := 28) (n := 3) dX5_makeProjectives_28 rfl ?_
  refine sm_aloadV_n (pc := 29) (n := 0) dX5_makeProjectives_29 rfl ?_
  refine gf_X5_9 (pc := 30) rfl dX5_makeProjectives_30 ?_
  refine gf_X5_19 (pc := 33) rfl dX5_makeProjectives_33 ?_
  refine sm_icmpS_ge (pc := 36) (tgt := 76) dX5_makeProjectives_36 (by decide) ?_ ?_
  · skip
    refine sm_iincR (pc := 76) (n := 2) dX5_makeProjectives_76 zc_i_1 ?_
    refine sm_goto (pc := 79) (tgt := 15) dX5_makeProjectives_79 (by decide) ?_
    exact hr15.use
  · skip
    refine sm_aloadV_n (pc := 39) (n := 0) dX5_makeProjectives_39 rfl ?_
    refine gf_X5_55 (pc := 40) rfl dX5_makeProjectives_40 ?_
    refine sm_iload_n (pc := 43) (n := 2) dX5_makeProjectives_43 rfl ?_
    refine sm_aaloadT (pc := 44) dX5_makeProjectives_44 ?_
    refine sm_iload_n (pc := 45) (n := 3) dX5_makeProjectives_45 rfl ?_
    refine sm_dup2V (pc := 46) dX5_makeProjectives_46 ?_
    refine sm_ialoadQ (pc := 47) dX5_makeProjectives_47 ?_
    refine sm_aloadV_n (pc := 48) (n := 0) dX5_makeProjectives_48 rfl ?_
    refine gf_X5_46 (pc := 49) rfl dX5_makeProjectives_49 ?_
    refine sm_iload_n (pc := 52) (n := 1) dX5_makeProjectives_52 rfl ?_
    refine sm_aaloadT (pc := 53) dX5_makeProjectives_53 ?_
    refine sm_iload_n (pc := 54) (n := 2) dX5_makeProjectives_54 rfl ?_
    refine sm_ialoadQ (pc := 55) dX5_makeProjectives_55 ?_
    refine sm_aloadV_n (pc := 56) (n := 0) dX5_makeProjectives_56 rfl ?_
    refine gf_X5_9 (pc := 57) rfl dX5_makeProjectives_57 ?_
    refine gf_X5_129 (pc := 60) rfl dX5_makeProjectives_60 ?_
    refine sm_iload_n (pc := 63) (n := 1) dX5_makeProjectives_63 rfl ?_
    refine sm_aaloadT (pc := 64) dX5_makeProjectives_64 ?_
    refine sm_iload_n (pc := 65) (n := 3) dX5_makeProjectives_65 rfl ?_
    exact scX5_makeProjectivesa_66 P r28 hr28
noncomputable def lX5_makeProjectivesa_15 {d : Nat} (P : zP d) (r15 : zK d) (r2 : zK d) : zK d := (xild 2 (xaldV 0 (xgfR 21 0 (xgfI 23 1 (xcmpS tgeR rlGe rhS rlS rhLt (xincR 1 1 r2) (xpI 0 (xist 3 (xlp 3 3 (hsF 0 [0] 1) wkE (fun r28 => (lX5_makeProjectivesa_28 P r15 r28))))))))))
set_option maxRecDepth 100000 in
set_option maxHeartbeats 4000000 in
theorem slX5_makeProjectivesa_15 {d : Nat} [zGh] (P : zP d) (r15 : zK d) (r2 : zK d) (hr15 : zSimJ 3 X_X5_makeProjectives 1 P 15 r15) (hr2 : zSimJ 2 X_X5_makeProjectives 1 P 2 r2) : zSim X_X5_makeProjectives 1 P 15 (lX5_makeProjectivesa_15 P r15 r2) := by
  unfold lX5_makeProjectivesa_15
  refine sm_iload_n (pc := 15) (n := 2) dX5_makeProjectives_15 rfl ?_
  refine sm_aloadV_n (pc := 16) (n := 0) dX5_makeProjectives_16 rfl ?_
  refine gf_X5_9 (pc := 17) rfl dX5_makeProjectives_17 ?_
  refine gf_X5_19 (pc := 20) rfl dX5_makeProjectives_20 ?_
  refine sm_icmpS_ge (pc := 23) (tgt := 82) dX5_makeProjectives_23 (by decide) ?_ ?_
  · skip
    refine sm_iincR (pc := 82) (n := 1) dX5_makeProjectives_82 zc_i_1 ?_
    refine sm_goto (pc := 85) (tgt := 2) dX5_makeProjectives_85 (by decide) ?_
    exact hr2.use
  · skip
    refine sm_iconst (pc := 26) dX5_makeProjectives_26 zc_i_0 ?_
    refine sm_istore_n (pc := 27) (n := 3) dX5_makeProjectives_27 rfl ?_
    exact sm_lp (i := 3) (j := 3) (by decide) (by decide) hsF_ok wkE_ok (fun G1 hG1 r28 hr28 => @slX5_makeProjectivesa_28 d G1 P r15 r28 (hr15.mv hG1 (by decide)) hr28)
noncomputable def lX5_makeProjectivesa_2 {d : Nat} (P : zP d) (r2 : zK d) : zK d := (xild 1 (xaldV 0 (xgfR 21 0 (xgfI 23 1 (xcmpS tgeR rlGe rhS rlS rhLt (xvret P) (xpI 0 (xist 2 (xlp 2 2 (hsF 0 [0] 1) wkE (fun r15 => (lX5_makeProjectivesa_15 P r15 r2))))))))))
set_option maxRecDepth 100000 in
set_option maxHeartbeats 4000000 in
theorem slX5_makeProjectivesa_2 {d : Nat} [zGh] (P : zP d) (r2 : zK d) (hr2 : zSimJ 2 X_X5_makeProjectives 1 P 2 r2) : zSim X_X5_makeProjectives 1 P 2 (lX5_makeProjectivesa_2 P r2) := by
  unfold lX5_makeProjectivesa_2
  refine sm_iload_n (pc := 2) (n := 1) dX5_makeProjectives_2 rfl ?_
  refine sm_aloadV_n (pc := 3) (n := 0) dX5_makeProjectives_3 rfl ?_
  refine gf_X5_9 (pc := 4) rfl dX5_makeProjectives_4 ?_
  refine gf_X5_19 (pc := 7) rfl dX5_makeProjectives_7 ?_
  refine sm_icmpS_ge (pc := 10) (tgt := 88) dX5_makeProjectives_10 (by decide) ?_ ?_
  · skip
    exact sm_vreturn (pc := 88) dX5_makeProjectives_88 rfl
  · skip
    refine sm_iconst (pc := 13) dX5_makeProjectives_13 zc_i_0 ?_
    refine sm_istore_n (pc := 14) (n := 2) dX5_makeProjectives_14 rfl ?_
    exact sm_lp (i := 2) (j := 2) (by decide) (by decide) hsF_ok wkE_ok (fun G1 hG1 r15 hr15 => @slX5_makeProjectivesa_15 d G1 P r15 r2 hr15 (hr2.mv hG1 (by decide)))
noncomputable def b_X5_makeProjectivesa {d : Nat} (P : zP d) : zK d := (xpI 0 (xist 1 (xlp 1 1 (hsF 0 [0] 1) (wkR 0 [9] 4294967296 (wkR 0 [7] 4294967296 (wkR 0 [0, 12] 4294967296 wkE))) (fun r2 => (lX5_makeProjectivesa_2 P r2)))))
set_option maxRecDepth 100000 in
set_option maxHeartbeats 4000000 in
theorem s_X5_makeProjectivesa {d : Nat} [zGh] (P : zP d) : zSim X_X5_makeProjectives 1 P 0 (b_X5_makeProjectivesa P) := by
  unfold b_X5_makeProjectivesa
  refine sm_iconst (pc := 0) dX5_makeProjectives_0 zc_i_0 ?_
  refine sm_istore_n (pc := 1) (n := 1) dX5_makeProjectives_1 rfl ?_
  exact sm_lp (i := 1) (j := 1) (by decide) (by decide) hsF_ok (wkR_ok (wkR_ok (wkR_ok wkE_ok))) (fun G1 hG1 r2 hr2 => @slX5_makeProjectivesa_2 d G1 P r2 hr2)
noncomputable def f_X5_makeProjectivesa {d : Nat} : List zV → zH d → zP d → Bool := zfn 4 b_X5_makeProjectivesa
theorem m_X5_makeProjectivesa {d : Nat} : zMet (d := d) X_X5_makeProjectives yX5_makeProjectives 1 f_X5_makeProjectivesa := zmet_mk (X := X_X5_makeProjectives) (by decide) rfl rfl s_X5_makeProjectivesa

