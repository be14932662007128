/-! the reference by summaries, by program -/
noncomputable def lX9_forma_6 {d : Nat} (P : zP d) (r6 : zK d) : zK d := (xild 6 (xald 0 (xgfM 25 28 (xcmpS tgeR rlGe rhS rlS rhLt (xild 5 (xiret P)) (xild 5 (xald 1 (xpI 720 (xild 2 (xbin zmulR (xild 6 (xbin zaddR (xalQ 0 (xald 3 (xpI 720 (xild 4 (xbin zmulR (xild 6 (xbin zaddR (xalQ 0 (xbin zmulR (xbin zaddR (xist 5 (xincR 6 1 r6)))))))))))))))))))))))
set_option maxRecDepth 100000 in
set_option maxHeartbeats 4000000 in
theorem slX9_forma_6 {d : Nat} [zGh] (P : zP d) (r6 : zK d) (hr6 : zSimJ 2 X_X9_form 1 P 6 r6) : zSim X_X9_form 1 P 6 (lX9_forma_6 P r6) := by
  unfold lX9_forma_6
  refine sm_iload (pc := 6) (n := 6) dX9_form_6 ?_
  refine sm_aload_n (pc := 8) (n := 0) dX9_form_8 rfl ?_
  refine gfM_X9_220 (pc := 9) rfl dX9_form_9 ?_
  refine sm_icmpS_ge (pc := 12) (tgt := 48) dX9_form_12 (by decide) ?_ ?_
  · skip
    refine sm_iload (pc := 48) (n := 5) dX9_form_48 ?_
    exact sm_ireturn (pc := 50) dX9_form_50 rfl
  · skip
    refine sm_iload (pc := 15) (n := 5) dX9_form_15 ?_
    refine sm_aload_n (pc := 17) (n := 1) dX9_form_17 rfl ?_
    refine sm_sipush (pc := 18) dX9_form_18 zc_s_720 ?_
    refine sm_iload_n (pc := 21) (n := 2) dX9_form_21 rfl ?_
    refine sm_imulR (pc := 22) dX9_form_22 ?_
    refine sm_iload (pc := 23) (n := 6) dX9_form_23 ?_
    refine sm_iaddR (pc := 25) dX9_form_25 ?_
    refine sm_ialoadQ (pc := 26) dX9_form_26 ?_
    refine sm_aload_n (pc := 27) (n := 3) dX9_form_27 rfl ?_
    refine sm_sipush (pc := 28) dX9_form_28 zc_s_720 ?_
    refine sm_iload (pc := 31) (n := 4) dX9_form_31 ?_
    refine sm_imulR (pc := 33) dX9_form_33 ?_
    refine sm_iload (pc := 34) (n := 6) dX9_form_34 ?_
    refine sm_iaddR (pc := 36) dX9_form_36 ?_
    refine sm_ialoadQ (pc := 37) dX9_form_37 ?_
    refine sm_imulR (pc := 38) dX9_form_38 ?_
    refine sm_iaddR (pc := 39) dX9_form_39 ?_
    refine sm_istore (pc := 40) (n := 5) dX9_form_40 ?_
    refine sm_iincR (pc := 42) (n := 6) dX9_form_42 zc_i_1 ?_
    refine sm_goto (pc := 45) (tgt := 6) dX9_form_45 (by decide) ?_
    exact hr6.use
noncomputable def b_X9_forma {d : Nat} (P : zP d) : zK d := (xpI 0 (xist 5 (xpI 0 (xist 6 (xlp 6 1 (hsC 721) (wkL 5 4294967296 wkE) (fun r6 => (lX9_forma_6 P r6)))))))
set_option maxRecDepth 100000 in
set_option maxHeartbeats 4000000 in
theorem s_X9_forma {d : Nat} [zGh] (P : zP d) : zSim X_X9_form 1 P 0 (b_X9_forma P) := by
  unfold b_X9_forma
  refine sm_iconst (pc := 0) dX9_form_0 zc_i_0 ?_
  refine sm_istore (pc := 1) (n := 5) dX9_form_1 ?_
  refine sm_iconst (pc := 3) dX9_form_3 zc_i_0 ?_
  refine sm_istore (pc := 4) (n := 6) dX9_form_4 ?_
  exact sm_lp (i := 6) (j := 1) (by decide) (by decide) hsC_ok (wkL_ok wkE_ok) (fun G1 hG1 r6 hr6 => @slX9_forma_6 d G1 P r6 hr6)
noncomputable def f_X9_forma {d : Nat} : List zV → zH d → zP d → Bool := zfn 7 b_X9_forma
theorem m_X9_forma {d : Nat} : zMet (d := d) X_X9_form yX9_form 1 f_X9_forma := zmet_mk (X := X_X9_form) (by decide) rfl rfl s_X9_forma

