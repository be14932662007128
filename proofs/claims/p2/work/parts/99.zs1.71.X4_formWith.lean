/-! the class by summaries, by program -/
noncomputable def lX4_formWitha_5 {d : Nat} (P : zP d) (r5 : zK d) : zK d := (xild 4 (xaldV 0 (xgfI 20 8 (xcmpS tgeR rlGe rhS rlS rhLt (xild 3 (xiret P)) (xild 3 (xaldV 0 (xgfR 20 10 (xild 4 (xalQ 0 (xaldV 2 (xaldV 1 (xild 4 (xalQ 0 (xalQ 0 (xbin zmulR (xbin zaddR (xist 3 (xincR 4 1 r5))))))))))))))))))
set_option maxRecDepth 100000 in
set_option maxHeartbeats 4000000 in
theorem slX4_formWitha_5 {d : Nat} [zGh] (P : zP d) (r5 : zK d) (hr5 : zSimJ 2 X_X4_formWith 1 P 5 r5) : zSim X_X4_formWith 1 P 5 (lX4_formWitha_5 P r5) := by
  unfold lX4_formWitha_5
  refine sm_iload (pc := 5) (n := 4) dX4_formWith_5 ?_
  refine sm_aloadV_n (pc := 7) (n := 0) dX4_formWith_7 rfl ?_
  refine gf_X4_60 (pc := 8) rfl dX4_formWith_8 ?_
  refine sm_icmpS_ge (pc := 11) (tgt := 37) dX4_formWith_11 (by decide) ?_ ?_
  · skip
    refine sm_iload_n (pc := 37) (n := 3) dX4_formWith_37 rfl ?_
    exact sm_ireturn (pc := 38) dX4_formWith_38 rfl
  · skip
    refine sm_iload_n (pc := 14) (n := 3) dX4_formWith_14 rfl ?_
    refine sm_aloadV_n (pc := 15) (n := 0) dX4_formWith_15 rfl ?_
    refine gf_X4_66 (pc := 16) rfl dX4_formWith_16 ?_
    refine sm_iload (pc := 19) (n := 4) dX4_formWith_19 ?_
    refine sm_ialoadQ (pc := 21) dX4_formWith_21 ?_
    refine sm_aloadV_n (pc := 22) (n := 2) dX4_formWith_22 rfl ?_
    refine sm_aloadV_n (pc := 23) (n := 1) dX4_formWith_23 rfl ?_
    refine sm_iload (pc := 24) (n := 4) dX4_formWith_24 ?_
    refine sm_ialoadQ (pc := 26) dX4_formWith_26 ?_
    refine sm_ialoadQ (pc := 27) dX4_formWith_27 ?_
    refine sm_imulR (pc := 28) dX4_formWith_28 ?_
    refine sm_iaddR (pc := 29) dX4_formWith_29 ?_
    refine sm_istore_n (pc := 30) (n := 3) dX4_formWith_30 rfl ?_
    refine sm_iincR (pc := 31) (n := 4) dX4_formWith_31 zc_i_1 ?_
    refine sm_goto (pc := 34) (tgt := 5) dX4_formWith_34 (by decide) ?_
    exact hr5.use
noncomputable def b_X4_formWitha {d : Nat} (P : zP d) : zK d := (xpI 0 (xist 3 (xpI 0 (xist 4 (xlp 4 1 (hsF 0 [] 8) (wkL 3 4294967296 wkE) (fun r5 => (lX4_formWitha_5 P r5)))))))
set_option maxRecDepth 100000 in
set_option maxHeartbeats 4000000 in
theorem s_X4_formWitha {d : Nat} [zGh] (P : zP d) : zSim X_X4_formWith 1 P 0 (b_X4_formWitha P) := by
  unfold b_X4_formWitha
  refine sm_iconst (pc := 0) dX4_formWith_0 zc_i_0 ?_
  refine sm_istore_n (pc := 1) (n := 3) dX4_formWith_1 rfl ?_
  refine sm_iconst (pc := 2) dX4_formWith_2 zc_i_0 ?_
  refine sm_istore (pc := 3) (n := 4) dX4_formWith_3 ?_
  exact sm_lp (i := 4) (j := 1) (by decide) (by decide) hsF_ok (wkL_ok wkE_ok) (fun G1 hG1 r5 hr5 => @slX4_formWitha_5 d G1 P r5 hr5)
noncomputable def f_X4_formWitha {d : Nat} : List zV → zH d → zP d → Bool := zfn 5 b_X4_formWitha
theorem m_X4_formWitha {d : Nat} : zMet (d := d) X_X4_formWith yX4_formWith 1 f_X4_formWitha := zmet_mk (X := X_X4_formWith) (by decide) rfl rfl s_X4_formWitha

