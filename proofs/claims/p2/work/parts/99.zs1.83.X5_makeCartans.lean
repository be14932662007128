/-! the class by summaries, by program -/
noncomputable def cX5_makeCartansa_64 {d : Nat} (P : zP d) (r28 : zK d) : zK d := (xbin zmulR (xbin zaddR (xasQ 0 (fun v => v) (xincR 3 1 r28))))
set_option maxRecDepth 100000 in
set_option maxHeartbeats 4000000 in
theorem scX5_makeCartansa_64 {d : Nat} [zGh] (P : zP d) (r28 : zK d) (hr28 : zSimJ 4 X_X5_makeCartans 1 P 28 r28) : zSim X_X5_makeCartans 1 P 64 (cX5_makeCartansa_64 P r28) := by
  unfold cX5_makeCartansa_64
  refine sm_imulR (pc := 64) dX5_makeCartans_64 ?_
  refine sm_iaddR (pc := 65) dX5_makeCartans_65 ?_
  refine sm_iastoreQ (pc := 66) dX5_makeCartans_66 ?_
  refine sm_iincR (pc := 67) (n := 3) dX5_makeCartans_67 zc_i_1 ?_
  refine sm_goto (pc := 70) (tgt := 28) dX5_makeCartans_70 (by decide) ?_
  exact hr28.use
noncomputable def lX5_makeCartansa_28 {d : Nat} (P : zP d) (r15 : zK d) (r28 : zK d) : zK d := (xild 3 (xaldV 0 (xgfR 21 0 (xgfI 23 1 (xcmpS tgeR rlGe rhS rlS rhLt (xincR 2 1 r15) (xaldV 0 (xgfR 21 8 (xild 2 (xaaT (xild 3 (xdup2V (xalQ 0 (xaldV 0 (xgfR 21 7 (xild 1 (xaaT (xild 2 (xalQ 0 (xaldV 0 (xgfR 21 7 (xild 1 (xaaT (xild 3 (xalQ 0 (cX5_makeCartansa_64 P r28)))))))))))))))))))))))))
set_option maxRecDepth 100000 in
set_option maxHeartbeats 4000000 in
theorem slX5_makeCartansa_28 {d : Nat} [zGh] (P : zP d) (r15 : zK d) (r28 : zK d) (hr15 : zSimJ 3 X_X5_makeCartans 1 P 15 r15) (hr28 : zSimJ 4 X_X5_makeCartans 1 P 28 r28) : zSim X_X5_makeCartans 1 P 28 (lX5_makeCartansa_28 P r15 r28) := by
  unfold lX5_makeCartansa_28
  refine sm_iload_n (pc := 28) (n := 3) dX5_makeCartans_28 rfl ?_
  refine sm_aloadV_n (pc := 29) (n := 0) dX5_makeCartans_29 rfl ?_
  refine gf_X5_9 (pc := 30) rfl dX5_makeCartans_30 ?_
  refine gf_X5_19 (pc := 33) rfl dX5_makeCartans_33 ?_
  refine sm_icmpS_ge (pc := 36) (tgt := 73) dX5_makeCartans_36 (by decide) ?_ ?_
  · skip
    refine sm_iincR (pc := 73) (n := 2) dX5_makeCartans_73 zc_i_1 ?_
    refine sm_goto (pc := 76) (tgt := 15) dX5_makeCartans_76 (by decide) ?_
    exact hr15.use
  · skip
    refine sm_aloadV_n (pc := 39) (n := 0) dX5_makeCartans_39 rfl ?_
    refine gf_X5_52 (pc := 40) rfl dX5_makeCartans_40 ?_
    refine sm_iload_n (pc := 43) (n := 2) dX5_makeCartans_43 rfl ?_
    refine sm_aaloadT (pc := 44) dX5_makeCartans_44 ?_
    refine sm_iload_n (pc := 45) (n := 3) dX5_makeCartans_45 rfl ?_
    refine sm_dup2V (pc := 46) dX5_makeCartans_46 ?_
    refine sm_ialoadQ (pc := 47) dX5_makeCartans_47 ?_
    refine sm_aloadV_n (pc := 48) (n := 0) dX5_makeCartans_48 rfl ?_
    refine gf_X5_46 (pc := 49) rfl dX5_makeCartans_49 ?_
    refine sm_iload_n (pc := 52) (n := 1) dX5_makeCartans_52 rfl ?_
    refine sm_aaloadT (pc := 53) dX5_makeCartans_53 ?_
    refine sm_iload_n (pc := 54) (n := 2) dX5_makeCartans_54 rfl ?_
    refine sm_ialoadQ (pc := 55) dX5_makeCartans_55 ?_
    refine sm_aloadV_n (pc := 56) (n := 0) dX5_makeCartans_56 rfl ?_
    refine gf_X5_46 (pc := 57) rfl dX5_makeCartans_57 ?_
    refine sm_iload_n (pc := 60) (n := 1) dX5_makeCartans_60 rfl ?_
    refine sm_aaloadT (pc := 61) dX5_makeCartans_61 ?_
    refine sm_iload_n (pc := 62) (n := 3) dX5_makeCartans_62 rfl ?_
    refine sm_ialoadQ (pc := 63) dX5_makeCartans_63 ?_
    exact scX5_makeCartansa_64 P r28 hr28
noncomputable def lX5_makeCartansa_15 {d : Nat} (P : zP d) (r15 : zK d) (r2 : zK d) : zK d := (xild 2 (xaldV 0 (xgfR 21 0 (xgfI 23 1 (xcmpS tgeR rlGe rhS rlS rhLt (xincR 1 1 r2) (xpI 0 (xist 3 (xlp 3 3 (hsF 0 [0] 1) wkE (fun r28 => (lX5_makeCartansa_28 P r15 r28))))))))))
set_option maxRecDepth 100000 in
set_option maxHeartbeats 4000000 in
theorem slX5_makeCartansa_15 {d : Nat} [zGh] (P : zP d) (r15 : zK d) (r2 : zK d) (hr15 : zSimJ 3 X_X5_makeCartans 1 P 15 r15) (hr2 : zSimJ 2 X_X5_makeCartans 1 P 2 r2) : zSim X_X5_makeCartans 1 P 15 (lX5_makeCartansa_15 P r15 r2) := by
  unfold lX5_makeCartansa_15
  refine sm_iload_n (pc := 15) (n := 2) dX5_makeCartans_15 rfl ?_
  refine sm_aloadV_n (pc := 16) (n := 0) dX5_makeCartans_16 rfl ?_
  refine gf_X5_9 (pc := 17) rfl dX5_makeCartans_17 ?_
  refine gf_X5_19 (pc := 20) rfl dX5_makeCartans_20 ?_
  refine sm_icmpS_ge (pc := 23) (tgt := 79) dX5_makeCartans_23 (by decide) ?_ ?_
  · skip
    refine sm_iincR (pc := 79) (n := 1) dX5_makeCartans_79 zc_i_1 ?_
    refine sm_goto (pc := 82) (tgt := 2) dX5_makeCartans_82 (by decide) ?_
    exact hr2.use
  · skip
    refine sm_iconst (pc := 26) dX5_makeCartans_26 zc_i_0 ?_
    refine sm_istore_n (pc := 27) (n := 3) dX5_makeCartans_27 rfl ?_
    exact sm_lp (i := 3) (j := 3) (by decide) (by decide) hsF_ok wkE_ok (fun G1 hG1 r28 hr28 => @slX5_makeCartansa_28 d G1 P r15 r28 (hr15.mv hG1 (by decide)) hr28)
noncomputable def lX5_makeCartansa_2 {d : Nat} (P : zP d) (r2 : zK d) : zK d := (xild 1 (xaldV 0 (xgfR 21 0 (xgfI 23 1 (xcmpS tgeR rlGe rhS rlS rhLt (xvret P) (xpI 0 (xist 2 (xlp 2 2 (hsF 0 [0] 1) wkE (fun r15 => (lX5_makeCartansa_15 P r15 r2))))))))))
set_option maxRecDepth 100000 in
set_option maxHeartbeats 4000000 in
theorem slX5_makeCartansa_2 {d : Nat} [zGh] (P : zP d) (r2 : zK d) (hr2 : zSimJ 2 X_X5_makeCartans 1 P 2 r2) : zSim X_X5_makeCartans 1 P 2 (lX5_makeCartansa_2 P r2) := by
  unfold lX5_makeCartansa_2
  refine sm_iload_n (pc := 2) (n := 1) dX5_makeCartans_2 rfl ?_
  refine sm_aloadV_n (pc := 3) (n := 0) dX5_makeCartans_3 rfl ?_
  refine gf_X5_9 (pc := 4) rfl dX5_makeCartans_4 ?_
  refine gf_X5_19 (pc := 7) rfl dX5_makeCartans_7 ?_
  refine sm_icmpS_ge (pc := 10) (tgt := 85) dX5_makeCartans_10 (by decide) ?_ ?_
  · skip
    exact sm_vreturn (pc := 85) dX5_makeCartans_85 rfl
  · skip
    refine sm_iconst (pc := 13) dX5_makeCartans_13 zc_i_0 ?_
    refine sm_istore_n (pc := 14) (n := 2) dX5_makeCartans_14 rfl ?_
    exact sm_lp (i := 2) (j := 2) (by decide) (by decide) hsF_ok wkE_ok (fun G1 hG1 r15 hr15 => @slX5_makeCartansa_15 d G1 P r15 r2 hr15 (hr2.mv hG1 (by decide)))
noncomputable def b_X5_makeCartansa {d : Nat} (P : zP d) : zK d := (xpI 0 (xist 1 (xlp 1 1 (hsF 0 [0] 1) (wkR 0 [8] 4294967296 (wkR 0 [7] 4294967296 wkE)) (fun r2 => (lX5_makeCartansa_2 P r2)))))
set_option maxRecDepth 100000 in
set_option maxHeartbeats 4000000 in
theorem s_X5_makeCartansa {d : Nat} [zGh] (P : zP d) : zSim X_X5_makeCartans 1 P 0 (b_X5_makeCartansa P) := by
  unfold b_X5_makeCartansa
  refine sm_iconst (pc := 0) dX5_makeCartans_0 zc_i_0 ?_
  refine sm_istore_n (pc := 1) (n := 1) dX5_makeCartans_1 rfl ?_
  exact sm_lp (i := 1) (j := 1) (by decide) (by decide) hsF_ok (wkR_ok (wkR_ok wkE_ok)) (fun G1 hG1 r2 hr2 => @slX5_makeCartansa_2 d G1 P r2 hr2)
noncomputable def f_X5_makeCartansa {d : Nat} : List zV → zH d → zP d → Bool := zfn 4 b_X5_makeCartansa
theorem m_X5_makeCartansa {d : Nat} : zMet (d := d) X_X5_makeCartans yX5_makeCartans 1 f_X5_makeCartansa := zmet_mk (X := X_X5_makeCartans) (by decide) rfl rfl s_X5_makeCartansa

