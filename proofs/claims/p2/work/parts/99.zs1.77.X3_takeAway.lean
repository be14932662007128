/-! the class by summaries, by program -/
noncomputable def lX3_takeAwaya_11 {d : Nat} (P : zP d) (r11 : zK d) : zK d := (xild 6 (xild 4 (xcmpS tgeR rlGe rhS rlS rhLt (xvret P) (xaldV 1 (xild 6 (xaldV 1 (xild 6 (xalQ 0 (xild 5 (xaldV 3 (xild 6 (xalQ 0 (xbin zmulR (xbin zaddR (xaldV 0 (xgfI 19 0 (xbinN zremR (xasQ 0 (fun v => v) (xincR 6 1 r11)))))))))))))))))))
set_option maxRecDepth 100000 in
set_option maxHeartbeats 4000000 in
theorem slX3_takeAwaya_11 {d : Nat} [zGh] (P : zP d) (r11 : zK d) (hr11 : zSimJ 2 X_X3_takeAway 1 P 11 r11) : zSim X_X3_takeAway 1 P 11 (lX3_takeAwaya_11 P r11) := by
  unfold lX3_takeAwaya_11
  refine sm_iload (pc := 11) (n := 6) dX3_takeAway_11 ?_
  refine sm_iload (pc := 13) (n := 4) dX3_takeAway_13 ?_
  refine sm_icmpS_ge (pc := 15) (tgt := 45) dX3_takeAway_15 (by decide) ?_ ?_
  · skip
    exact sm_vreturn (pc := 45) dX3_takeAway_45 rfl
  · skip
    refine sm_aloadV_n (pc := 18) (n := 1) dX3_takeAway_18 rfl ?_
    refine sm_iload (pc := 19) (n := 6) dX3_takeAway_19 ?_
    refine sm_aloadV_n (pc := 21) (n := 1) dX3_takeAway_21 rfl ?_
    refine sm_iload (pc := 22) (n := 6) dX3_takeAway_22 ?_
    refine sm_ialoadQ (pc := 24) dX3_takeAway_24 ?_
    refine sm_iload (pc := 25) (n := 5) dX3_takeAway_25 ?_
    refine sm_aloadV_n (pc := 27) (n := 3) dX3_takeAway_27 rfl ?_
    refine sm_iload (pc := 28) (n := 6) dX3_takeAway_28 ?_
    refine sm_ialoadQ (pc := 30) dX3_takeAway_30 ?_
    refine sm_imulR (pc := 31) dX3_takeAway_31 ?_
    refine sm_iaddR (pc := 32) dX3_takeAway_32 ?_
    refine sm_aloadV_n (pc := 33) (n := 0) dX3_takeAway_33 rfl ?_
    refine gf_X3_7 (pc := 34) rfl dX3_takeAway_34 ?_
    refine sm_iremR (pc := 37) dX3_takeAway_37 ?_
    refine sm_iastoreQ (pc := 38) dX3_takeAway_38 ?_
    refine sm_iincR (pc := 39) (n := 6) dX3_takeAway_39 zc_i_1 ?_
    refine sm_goto (pc := 42) (tgt := 11) dX3_takeAway_42 (by decide) ?_
    exact hr11.use
noncomputable def b_X3_takeAwaya {d : Nat} (P : zP d) : zK d := (xaldV 0 (xgfI 19 0 (xild 2 (xbin zsubR (xist 5 (xpI 0 (xist 6 (xlp 6 1 (hsL 4) wkE (fun r11 => (lX3_takeAwaya_11 P r11))))))))))
set_option maxRecDepth 100000 in
set_option maxHeartbeats 4000000 in
theorem s_X3_takeAwaya {d : Nat} [zGh] (P : zP d) : zSim X_X3_takeAway 1 P 0 (b_X3_takeAwaya P) := by
  unfold b_X3_takeAwaya
  refine sm_aloadV_n (pc := 0) (n := 0) dX3_takeAway_0 rfl ?_
  refine gf_X3_7 (pc := 1) rfl dX3_takeAway_1 ?_
  refine sm_iload_n (pc := 4) (n := 2) dX3_takeAway_4 rfl ?_
  refine sm_isubR (pc := 5) dX3_takeAway_5 ?_
  refine sm_istore (pc := 6) (n := 5) dX3_takeAway_6 ?_
  refine sm_iconst (pc := 8) dX3_takeAway_8 zc_i_0 ?_
  refine sm_istore (pc := 9) (n := 6) dX3_takeAway_9 ?_
  exact sm_lp (i := 6) (j := 1) (by decide) (by decide) hsL_ok wkE_ok (fun G1 hG1 r11 hr11 => @slX3_takeAwaya_11 d G1 P r11 hr11)
noncomputable def f_X3_takeAwaya {d : Nat} : List zV → zH d → zP d → Bool := zfn 7 b_X3_takeAwaya
theorem m_X3_takeAwaya {d : Nat} : zMet (d := d) X_X3_takeAway yX3_takeAway 1 f_X3_takeAwaya := zmet_mk (X := X_X3_takeAway) (by decide) rfl rfl s_X3_takeAwaya

