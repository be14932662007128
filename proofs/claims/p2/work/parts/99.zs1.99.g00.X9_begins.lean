/-! the reference by summaries, by program -/
noncomputable def lX9_beginsa_40 {d : Nat} (P : zP d) (r40 : zK d) : zK d := (xild 2 (xald 0 (xgfI 25 0 (xcmpS tleR rlS rhLe rlGt rhS (xald 0 (xgfR 25 33 (xild 2 (xild 2 (xasQ 0 (fun v => v) (xincR 2 1 r40)))))) (xmk mk10 (xmk mk11 (xald 0 (xald 0 (xgfR 25 29 (xcV 25 2 0 0 (zstr gs_X9_sumsOf) (xvret P)))))))))))
set_option maxRecDepth 100000 in
set_option maxHeartbeats 4000000 in
theorem slX9_beginsa_40 {d : Nat} [zGh] (P : zP d) (r40 : zK d) (hr40 : zSimJ 2 X_X9_begins 18 P 40 r40) : zSim X_X9_begins 18 P 40 (lX9_beginsa_40 P r40) := by
  unfold lX9_beginsa_40
  refine sm_iload_n (pc := 40) (n := 2) dX9_begins_40 rfl ?_
  refine sm_aload_n (pc := 41) (n := 0) dX9_begins_41 rfl ?_
  refine gf_X9_169 (pc := 42) rfl dX9_begins_42 ?_
  refine sm_icmpS_gt (pc := 45) (tgt := 61) dX9_begins_45 (by decide) ?_ ?_
  · skip
    refine sm_mk mk10_ok ?_
    refine sm_mk mk11_ok ?_
    refine sm_aload_n (pc := 61) (n := 0) dX9_begins_61 rfl ?_
    refine sm_aload_n (pc := 62) (n := 0) dX9_begins_62 rfl ?_
    refine gf_X9_72 (pc := 63) rfl dX9_begins_63 ?_
    refine sm_cV (pc := 66) (ci := 9) (n := 2) (mc := 0) (ms := 0) rfl (zMet_str mgs_X9_sumsOf) (cr_X9_234 (X := X_X9_begins) (fr := 18) (frc := 17) (pc := 66) (mc := 0) (ms := 0) rfl (by decide) dX9_begins_66) ?_
    exact sm_vreturn (pc := 69) dX9_begins_69 rfl
  · skip
    refine sm_aload_n (pc := 48) (n := 0) dX9_begins_48 rfl ?_
    refine gf_X9_84 (pc := 49) rfl dX9_begins_49 ?_
    refine sm_iload_n (pc := 52) (n := 2) dX9_begins_52 rfl ?_
    refine sm_iload_n (pc := 53) (n := 2) dX9_begins_53 rfl ?_
    refine sm_iastoreQ (pc := 54) dX9_begins_54 ?_
    refine sm_iincR (pc := 55) (n := 2) dX9_begins_55 zc_i_1 ?_
    refine sm_goto (pc := 58) (tgt := 40) dX9_begins_58 (by decide) ?_
    exact hr40.use
noncomputable def lX9_beginsa_2 {d : Nat} (P : zP d) (r2 : zK d) : zK d := (xild 2 (xald 0 (xgfM 25 28 (xcmpS tgeR rlGe rhS rlS rhLt (xald 0 (xpI 0 (xpfI 25 28 (xald 0 (xild 1 (xpfI 25 25 (xpI 1 (xist 2 (xloop (fun r40 => (lX9_beginsa_40 P r40)) 100000))))))))) (xald 0 (xgfR 25 26 (xald 0 (xgfR 25 27 (xild 2 (xalQ 0 (xpI 0 (xasQ 0 (fun v => v) (xincR 2 1 r2)))))))))))))
set_option maxRecDepth 100000 in
set_option maxHeartbeats 4000000 in
theorem slX9_beginsa_2 {d : Nat} [zGh] (P : zP d) (r2 : zK d) (hr2 : zSimJ 2 X_X9_begins 18 P 2 r2) : zSim X_X9_begins 18 P 2 (lX9_beginsa_2 P r2) := by
  unfold lX9_beginsa_2
  refine sm_iload_n (pc := 2) (n := 2) dX9_begins_2 rfl ?_
  refine sm_aload_n (pc := 3) (n := 0) dX9_begins_3 rfl ?_
  refine gfM_X9_220 (pc := 4) rfl dX9_begins_4 ?_
  refine sm_icmpS_ge (pc := 7) (tgt := 28) dX9_begins_7 (by decide) ?_ ?_
  · skip
    refine sm_aload_n (pc := 28) (n := 0) dX9_begins_28 rfl ?_
    refine sm_iconst (pc := 29) dX9_begins_29 zc_i_0 ?_
    refine pf_X9_220 (pc := 30) rfl dX9_begins_30 ?_
    refine sm_aload_n (pc := 33) (n := 0) dX9_begins_33 rfl ?_
    refine sm_iload_n (pc := 34) (n := 1) dX9_begins_34 rfl ?_
    refine pf_X9_205 (pc := 35) rfl dX9_begins_35 ?_
    refine sm_iconst (pc := 38) dX9_begins_38 zc_i_1 ?_
    refine sm_istore_n (pc := 39) (n := 2) dX9_begins_39 rfl ?_
    exact (sm_loopJ (j := 2) (fun G1 hG1 r40 hr40 => @slX9_beginsa_40 d G1 P r40 hr40) _).use
  · skip
    refine sm_aload_n (pc := 10) (n := 0) dX9_begins_10 rfl ?_
    refine gf_X9_66 (pc := 11) rfl dX9_begins_11 ?_
    refine sm_aload_n (pc := 14) (n := 0) dX9_begins_14 rfl ?_
    refine gf_X9_69 (pc := 15) rfl dX9_begins_15 ?_
    refine sm_iload_n (pc := 18) (n := 2) dX9_begins_18 rfl ?_
    refine sm_ialoadQ (pc := 19) dX9_begins_19 ?_
    refine sm_iconst (pc := 20) dX9_begins_20 zc_i_0 ?_
    refine sm_iastoreQ (pc := 21) dX9_begins_21 ?_
    refine sm_iincR (pc := 22) (n := 2) dX9_begins_22 zc_i_1 ?_
    refine sm_goto (pc := 25) (tgt := 2) dX9_begins_25 (by decide) ?_
    exact hr2.use
noncomputable def b_X9_beginsa {d : Nat} (P : zP d) : zK d := (xpI 0 (xist 2 (xlp 2 1 (hsC 721) (wkA 0 [26] 4294968017 (wkA 0 [27] 4295013952 (wkF 0 [] 28 4294968017 wkE))) (fun r2 => (lX9_beginsa_2 P r2)))))
set_option maxRecDepth 100000 in
set_option maxHeartbeats 4000000 in
theorem s_X9_beginsa {d : Nat} [zGh] (P : zP d) : zSim X_X9_begins 18 P 0 (b_X9_beginsa P) := by
  unfold b_X9_beginsa
  refine sm_iconst (pc := 0) dX9_begins_0 zc_i_0 ?_
  refine sm_istore_n (pc := 1) (n := 2) dX9_begins_1 rfl ?_
  exact sm_lp (i := 2) (j := 1) (by decide) (by decide) hsC_ok (wkA_ok (wkA_ok (wkF_ok wkE_ok))) (fun G1 hG1 r2 hr2 => @slX9_beginsa_2 d G1 P r2 hr2)
noncomputable def f_X9_beginsa {d : Nat} : List zV → zH d → zP d → Bool := zfn 3 b_X9_beginsa
theorem m_X9_beginsa {d : Nat} : zMet (d := d) X_X9_begins yX9_begins 18 f_X9_beginsa := zmet_mk (X := X_X9_begins) (by decide) rfl rfl s_X9_beginsa

