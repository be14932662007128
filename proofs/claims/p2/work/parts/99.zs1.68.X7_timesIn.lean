/-! the class by summaries, by program -/
noncomputable def bX7_timesIna_57 {d : Nat} (P : zP d) : zK d := (xiret P)
set_option maxRecDepth 100000 in
set_option maxHeartbeats 4000000 in
theorem sbX7_timesIna_57 {d : Nat} [zGh] (P : zP d) : zSim X_X7_timesIn 1 P 57 (bX7_timesIna_57 P) := by
  unfold bX7_timesIna_57
  exact sm_ireturn (pc := 57) dX7_timesIn_57 rfl
noncomputable def lX7_timesIna_5 {d : Nat} (P : zP d) (r5 : zK d) : zK d := (xild 4 (xald 0 (xgfI 23 1 (xcmpS tgeR rlGe rhS rlS rhLt (xald 0 (xgfI 23 2 (xjoin (bX7_timesIna_57 P) (fun j57 => (xif0S tleR rlS rhLe rlGt rhS (xpI 0 j57) (xild 3 (xald 0 (xgfI 23 2 (xbinN zdivR j57))))))))) (xild 3 (xald 0 (xgfR 23 5 (xild 4 (xalQ 0 (xald 1 (xild 4 (xalQ 0 (xbin zmulR (xald 2 (xild 4 (xalQ 0 (xbin zmulR (xbin zaddR (xist 3 (xincR 4 1 r5))))))))))))))))))))
set_option maxRecDepth 100000 in
set_option maxHeartbeats 4000000 in
theorem slX7_timesIna_5 {d : Nat} [zGh] (P : zP d) (r5 : zK d) (hr5 : zSimJ 2 X_X7_timesIn 1 P 5 r5) : zSim X_X7_timesIn 1 P 5 (lX7_timesIna_5 P r5) := by
  unfold lX7_timesIna_5
  refine sm_iload (pc := 5) (n := 4) dX7_timesIn_5 ?_
  refine sm_aload_n (pc := 7) (n := 0) dX7_timesIn_7 rfl ?_
  refine gf_X7_19 (pc := 8) rfl dX7_timesIn_8 ?_
  refine sm_icmpS_ge (pc := 11) (tgt := 40) dX7_timesIn_11 (by decide) ?_ ?_
  · skip
    refine sm_aload_n (pc := 40) (n := 0) dX7_timesIn_40 rfl ?_
    refine gf_X7_35 (pc := 41) rfl dX7_timesIn_41 ?_
    refine sm_joinJ (pc := 44) (pc' := 57) (j := 2) (fun G0 hG0 => @sbX7_timesIna_57 d G0 P) (fun j57 hj57 => ?_)
    refine sm_ifS_le (pc := 44) (tgt := 56) dX7_timesIn_44 (by decide) ?_ ?_
    · skip
      refine sm_iconst (pc := 56) dX7_timesIn_56 zc_i_0 ?_
      exact hj57.use
    · skip
      refine sm_iload_n (pc := 47) (n := 3) dX7_timesIn_47 rfl ?_
      refine sm_aload_n (pc := 48) (n := 0) dX7_timesIn_48 rfl ?_
      refine gf_X7_35 (pc := 49) rfl dX7_timesIn_49 ?_
      refine sm_idivR (pc := 52) dX7_timesIn_52 ?_
      refine sm_goto (pc := 53) (tgt := 57) dX7_timesIn_53 (by decide) ?_
      exact hj57.use
  · skip
    refine sm_iload_n (pc := 14) (n := 3) dX7_timesIn_14 rfl ?_
    refine sm_aload_n (pc := 15) (n := 0) dX7_timesIn_15 rfl ?_
    refine gf_X7_41 (pc := 16) rfl dX7_timesIn_16 ?_
    refine sm_iload (pc := 19) (n := 4) dX7_timesIn_19 ?_
    refine sm_ialoadQ (pc := 21) dX7_timesIn_21 ?_
    refine sm_aload_n (pc := 22) (n := 1) dX7_timesIn_22 rfl ?_
    refine sm_iload (pc := 23) (n := 4) dX7_timesIn_23 ?_
    refine sm_ialoadQ (pc := 25) dX7_timesIn_25 ?_
    refine sm_imulR (pc := 26) dX7_timesIn_26 ?_
    refine sm_aload_n (pc := 27) (n := 2) dX7_timesIn_27 rfl ?_
    refine sm_iload (pc := 28) (n := 4) dX7_timesIn_28 ?_
    refine sm_ialoadQ (pc := 30) dX7_timesIn_30 ?_
    refine sm_imulR (pc := 31) dX7_timesIn_31 ?_
    refine sm_iaddR (pc := 32) dX7_timesIn_32 ?_
    refine sm_istore_n (pc := 33) (n := 3) dX7_timesIn_33 rfl ?_
    refine sm_iincR (pc := 34) (n := 4) dX7_timesIn_34 zc_i_1 ?_
    refine sm_goto (pc := 37) (tgt := 5) dX7_timesIn_37 (by decide) ?_
    exact hr5.use
noncomputable def b_X7_timesIna {d : Nat} (P : zP d) : zK d := (xpI 0 (xist 3 (xpI 0 (xist 4 (xlp 4 1 (hsF 0 [] 1) (wkL 3 4294967296 wkE) (fun r5 => (lX7_timesIna_5 P r5)))))))
set_option maxRecDepth 100000 in
set_option maxHeartbeats 4000000 in
theorem s_X7_timesIna {d : Nat} [zGh] (P : zP d) : zSim X_X7_timesIn 1 P 0 (b_X7_timesIna P) := by
  unfold b_X7_timesIna
  refine sm_iconst (pc := 0) dX7_timesIn_0 zc_i_0 ?_
  refine sm_istore_n (pc := 1) (n := 3) dX7_timesIn_1 rfl ?_
  refine sm_iconst (pc := 2) dX7_timesIn_2 zc_i_0 ?_
  refine sm_istore (pc := 3) (n := 4) dX7_timesIn_3 ?_
  exact sm_lp (i := 4) (j := 1) (by decide) (by decide) hsF_ok (wkL_ok wkE_ok) (fun G1 hG1 r5 hr5 => @slX7_timesIna_5 d G1 P r5 hr5)
noncomputable def f_X7_timesIna {d : Nat} : List zV → zH d → zP d → Bool := zfn 5 b_X7_timesIna
theorem m_X7_timesIna {d : Nat} : zMet (d := d) X_X7_timesIn yX7_timesIn 1 f_X7_timesIna := zmet_mk (X := X_X7_timesIn) (by decide) rfl rfl s_X7_timesIna

