/-! the class by summaries, by program -/
noncomputable def lX3_scalea_3 {d : Nat} (P : zP d) (r3 : zK d) : zK d := (xild 4 (xild 3 (xcmpS tgeR rlGe rhS rlS rhLt (xvret P) (xaldV 1 (xild 4 (xaldV 1 (xild 4 (xalQ 0 (xild 2 (xbin zmulR (xaldV 0 (xgfI 19 0 (xbinN zremR (xasQ 0 (fun v => v) (xincR 4 1 r3)))))))))))))))
set_option maxRecDepth 100000 in
set_option maxHeartbeats 4000000 in
theorem slX3_scalea_3 {d : Nat} [zGh] (P : zP d) (r3 : zK d) (hr3 : zSimJ 2 X_X3_scale 1 P 3 r3) : zSim X_X3_scale 1 P 3 (lX3_scalea_3 P r3) := by
  unfold lX3_scalea_3
  refine sm_iload (pc := 3) (n := 4) dX3_scale_3 ?_
  refine sm_iload_n (pc := 5) (n := 3) dX3_scale_5 rfl ?_
  refine sm_icmpS_ge (pc := 6) (tgt := 30) dX3_scale_6 (by decide) ?_ ?_
  · skip
    exact sm_vreturn (pc := 30) dX3_scale_30 rfl
  · skip
    refine sm_aloadV_n (pc := 9) (n := 1) dX3_scale_9 rfl ?_
    refine sm_iload (pc := 10) (n := 4) dX3_scale_10 ?_
    refine sm_aloadV_n (pc := 12) (n := 1) dX3_scale_12 rfl ?_
    refine sm_iload (pc := 13) (n := 4) dX3_scale_13 ?_
    refine sm_ialoadQ (pc := 15) dX3_scale_15 ?_
    refine sm_iload_n (pc := 16) (n := 2) dX3_scale_16 rfl ?_
    refine sm_imulR (pc := 17) dX3_scale_17 ?_
    refine sm_aloadV_n (pc := 18) (n := 0) dX3_scale_18 rfl ?_
    refine gf_X3_7 (pc := 19) rfl dX3_scale_19 ?_
    refine sm_iremR (pc := 22) dX3_scale_22 ?_
    refine sm_iastoreQ (pc := 23) dX3_scale_23 ?_
    refine sm_iincR (pc := 24) (n := 4) dX3_scale_24 zc_i_1 ?_
    refine sm_goto (pc := 27) (tgt := 3) dX3_scale_27 (by decide) ?_
    exact hr3.use
noncomputable def b_X3_scalea {d : Nat} (P : zP d) : zK d := (xpI 0 (xist 4 (xlp 4 1 (hsL 3) wkE (fun r3 => (lX3_scalea_3 P r3)))))
set_option maxRecDepth 100000 in
set_option maxHeartbeats 4000000 in
theorem s_X3_scalea {d : Nat} [zGh] (P : zP d) : zSim X_X3_scale 1 P 0 (b_X3_scalea P) := by
  unfold b_X3_scalea
  refine sm_iconst (pc := 0) dX3_scale_0 zc_i_0 ?_
  refine sm_istore (pc := 1) (n := 4) dX3_scale_1 ?_
  exact sm_lp (i := 4) (j := 1) (by decide) (by decide) hsL_ok wkE_ok (fun G1 hG1 r3 hr3 => @slX3_scalea_3 d G1 P r3 hr3)
noncomputable def f_X3_scalea {d : Nat} : List zV → zH d → zP d → Bool := zfn 5 b_X3_scalea
theorem m_X3_scalea {d : Nat} : zMet (d := d) X_X3_scale yX3_scale 1 f_X3_scalea := zmet_mk (X := X_X3_scale) (by decide) rfl rfl s_X3_scalea

