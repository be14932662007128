/-! public methods, by program -/

noncomputable def cX9_ordinarySumv_44 {d : Nat} (P : zP d) (r5 : zK d) : zK d := (xild 5 (xbin zaddR (xalQ 0 (xi2lR (xbinj zmulj (xbinj zaddj (xlst 3 (xincR 5 1 r5))))))))
set_option maxRecDepth 100000 in
set_option maxHeartbeats 4000000 in
theorem scX9_ordinarySumv_44 {d : Nat} [zGh] (P : zP d) (r5 : zK d) (hr5 : zSimJ 1 X_X9_ordinarySum 1 P 5 r5) : zSim X_X9_ordinarySum 1 P 44 (cX9_ordinarySumv_44 P r5) := by
  unfold cX9_ordinarySumv_44
  refine sm_iload (pc := 44) (n := 5) dX9_ordinarySum_44 ?_
  refine sm_iaddR (pc := 46) dX9_ordinarySum_46 ?_
  refine sm_ialoadQ (pc := 47) dX9_ordinarySum_47 ?_
  refine sm_i2lR (pc := 48) dX9_ordinarySum_48 ?_
  refine sm_lmul (pc := 49) dX9_ordinarySum_49 ?_
  refine sm_ladd (pc := 50) dX9_ordinarySum_50 ?_
  refine sm_lstore_n (pc := 51) (n := 3) dX9_ordinarySum_51 rfl ?_
  refine sm_iincR (pc := 52) (n := 5) dX9_ordinarySum_52 zc_i_1 ?_
  refine sm_goto (pc := 55) (tgt := 5) dX9_ordinarySum_55 (by decide) ?_
  exact hr5.use
noncomputable def lX9_ordinarySumv_5 {d : Nat} (P : zP d) (r5 : zK d) : zK d := (xild 5 (xaldV 0 (xgfI 25 2 (xcmpS tgeR rlGe rhS rlS rhLt (xlld 3 (xlret P)) (xlld 3 (xaldV 0 (xgfR 25 43 (xpI 11 (xild 1 (xbin zmulR (xild 5 (xbin zaddR (xlalB (xaldV 0 (xgfR 25 5 (xild 5 (xalQ 0 (xi2lR (xbinj zmulj (xaldV 0 (xgfR 25 14 (xpI 11 (xild 2 (xbin zmulR (cX9_ordinarySumv_44 P r5)))))))))))))))))))))))))
set_option maxRecDepth 100000 in
set_option maxHeartbeats 4000000 in
theorem slX9_ordinarySumv_5 {d : Nat} [zGh] (P : zP d) (r5 : zK d) (hr5 : zSimJ 1 X_X9_ordinarySum 1 P 5 r5) : zSim X_X9_ordinarySum 1 P 5 (lX9_ordinarySumv_5 P r5) := by
  unfold lX9_ordinarySumv_5
  refine sm_iload (pc := 5) (n := 5) dX9_ordinarySum_5 ?_
  refine sm_aloadV_n (pc := 7) (n := 0) dX9_ordinarySum_7 rfl ?_
  refine gf_X9_153 (pc := 8) rfl dX9_ordinarySum_8 ?_
  refine sm_icmpS_ge (pc := 11) (tgt := 58) dX9_ordinarySum_11 (by decide) ?_ ?_
  · skip
    refine sm_lload_n (pc := 58) (n := 3) dX9_ordinarySum_58 rfl ?_
    exact sm_lreturn (pc := 59) dX9_ordinarySum_59 rfl
  · skip
    refine sm_lload_n (pc := 14) (n := 3) dX9_ordinarySum_14 rfl ?_
    refine sm_aloadV_n (pc := 15) (n := 0) dX9_ordinarySum_15 rfl ?_
    refine gf_X9_115 (pc := 16) rfl dX9_ordinarySum_16 ?_
    refine sm_bipush (pc := 19) dX9_ordinarySum_19 zc_b_11 ?_
    refine sm_iload_n (pc := 21) (n := 1) dX9_ordinarySum_21 rfl ?_
    refine sm_imulR (pc := 22) dX9_ordinarySum_22 ?_
    refine sm_iload (pc := 23) (n := 5) dX9_ordinarySum_23 ?_
    refine sm_iaddR (pc := 25) dX9_ordinarySum_25 ?_
    refine sm_laloadB (pc := 26) dX9_ordinarySum_26 ?_
    refine sm_aloadV_n (pc := 27) (n := 0) dX9_ordinarySum_27 rfl ?_
    refine gf_X9_16 (pc := 28) rfl dX9_ordinarySum_28 ?_
    refine sm_iload (pc := 31) (n := 5) dX9_ordinarySum_31 ?_
    refine sm_ialoadQ (pc := 33) dX9_ordinarySum_33 ?_
    refine sm_i2lR (pc := 34) dX9_ordinarySum_34 ?_
    refine sm_lmul (pc := 35) dX9_ordinarySum_35 ?_
    refine sm_aloadV_n (pc := 36) (n := 0) dX9_ordinarySum_36 rfl ?_
    refine gf_X9_38 (pc := 37) rfl dX9_ordinarySum_37 ?_
    refine sm_bipush (pc := 40) dX9_ordinarySum_40 zc_b_11 ?_
    refine sm_iload_n (pc := 42) (n := 2) dX9_ordinarySum_42 rfl ?_
    refine sm_imulR (pc := 43) dX9_ordinarySum_43 ?_
    exact scX9_ordinarySumv_44 P r5 hr5
noncomputable def b_X9_ordinarySumv {d : Nat} (P : zP d) : zK d := (xpL 0 (xlst 3 (xpI 0 (xist 5 (xloop (fun r5 => (lX9_ordinarySumv_5 P r5)) 100000)))))
set_option maxRecDepth 100000 in
set_option maxHeartbeats 4000000 in
theorem s_X9_ordinarySumv {d : Nat} [zGh] (P : zP d) : zSim X_X9_ordinarySum 1 P 0 (b_X9_ordinarySumv P) := by
  unfold b_X9_ordinarySumv
  refine sm_lconst (pc := 0) dX9_ordinarySum_0 zc_l_0 ?_
  refine sm_lstore_n (pc := 1) (n := 3) dX9_ordinarySum_1 rfl ?_
  refine sm_iconst (pc := 2) dX9_ordinarySum_2 zc_i_0 ?_
  refine sm_istore (pc := 3) (n := 5) dX9_ordinarySum_3 ?_
  exact (sm_loopJ (j := 1) (fun G1 hG1 r5 hr5 => @slX9_ordinarySumv_5 d G1 P r5 hr5) _).use
noncomputable def f_X9_ordinarySumv {d : Nat} : List zV → zH d → zP d → Bool := zfn 6 (b_X9_ordinarySumv )
theorem m_X9_ordinarySumv {d : Nat} : zMet (d := d) X_X9_ordinarySum yX9_ordinarySum 1 (f_X9_ordinarySumv ) := zmet_mk (X := X_X9_ordinarySum) (by decide) rfl rfl (fun P => s_X9_ordinarySumv P)

noncomputable def bX9_modularSumv_62 {d : Nat} (P : zP d) (r5 : zK d) : zK d := (xincR 5 1 r5)
set_option maxRecDepth 100000 in
set_option maxHeartbeats 4000000 in
theorem sbX9_modularSumv_62 {d : Nat} [zGh] (P : zP d) (r5 : zK d) (hr5 : zSimJ 1 X_X9_modularSum 1 P 5 r5) : zSim X_X9_modularSum 1 P 62 (bX9_modularSumv_62 P r5) := by
  unfold bX9_modularSumv_62
  refine sm_iincR (pc := 62) (n := 5) dX9_modularSum_62 zc_i_1 ?_
  refine sm_goto (pc := 65) (tgt := 5) dX9_modularSum_65 (by decide) ?_
  exact hr5.use
noncomputable def cX9_modularSumv_46 {d : Nat} (P : zP d) (j62 : zK d) : zK d := (xaldV 0 (xgfR 25 40 (xpI 11 (xild 2 (xbin zmulR (xild 5 (xbin zaddR (xalQ 0 (xi2lR (xbinj zmulj (xbinj zaddj (xlst 3 j62))))))))))))
set_option maxRecDepth 100000 in
set_option maxHeartbeats 4000000 in
theorem scX9_modularSumv_46 {d : Nat} [zGh] (P : zP d) (j62 : zK d) (hj62 : zSimJ 1 X_X9_modularSum 1 P 62 j62) : zSim X_X9_modularSum 1 P 46 (cX9_modularSumv_46 P j62) := by
  unfold cX9_modularSumv_46
  refine sm_aloadV_n (pc := 46) (n := 0) dX9_modularSum_46 rfl ?_
  refine gf_X9_105 (pc := 47) rfl dX9_modularSum_47 ?_
  refine sm_bipush (pc := 50) dX9_modularSum_50 zc_b_11 ?_
  refine sm_iload_n (pc := 52) (n := 2) dX9_modularSum_52 rfl ?_
  refine sm_imulR (pc := 53) dX9_modularSum_53 ?_
  refine sm_iload (pc := 54) (n := 5) dX9_modularSum_54 ?_
  refine sm_iaddR (pc := 56) dX9_modularSum_56 ?_
  refine sm_ialoadQ (pc := 57) dX9_modularSum_57 ?_
  refine sm_i2lR (pc := 58) dX9_modularSum_58 ?_
  refine sm_lmul (pc := 59) dX9_modularSum_59 ?_
  refine sm_ladd (pc := 60) dX9_modularSum_60 ?_
  refine sm_lstore_n (pc := 61) (n := 3) dX9_modularSum_61 rfl ?_
  exact hj62.use
noncomputable def lX9_modularSumv_5 {d : Nat} (P : zP d) (r5 : zK d) : zK d := (xild 5 (xaldV 0 (xgfI 25 2 (xcmpS tgeR rlGe rhS rlS rhLt (xlld 3 (xlret P)) (xaldV 0 (xgfR 25 8 (xild 5 (xalQ 1 (xjoin (bX9_modularSumv_62 P r5) (fun j62 => (xif0S teqR rlEq rhEq rlNe rhNe j62 (xlld 3 (xaldV 0 (xgfR 25 43 (xpI 11 (xild 1 (xbin zmulR (xild 5 (xbin zaddR (xlalB (xaldV 0 (xgfR 25 5 (xild 5 (xalQ 0 (xi2lR (xbinj zmulj (cX9_modularSumv_46 P j62)))))))))))))))))))))))))))
set_option maxRecDepth 100000 in
set_option maxHeartbeats 4000000 in
theorem slX9_modularSumv_5 {d : Nat} [zGh] (P : zP d) (r5 : zK d) (hr5 : zSimJ 1 X_X9_modularSum 1 P 5 r5) : zSim X_X9_modularSum 1 P 5 (lX9_modularSumv_5 P r5) := by
  unfold lX9_modularSumv_5
  refine sm_iload (pc := 5) (n := 5) dX9_modularSum_5 ?_
  refine sm_aloadV_n (pc := 7) (n := 0) dX9_modularSum_7 rfl ?_
  refine gf_X9_153 (pc := 8) rfl dX9_modularSum_8 ?_
  refine sm_icmpS_ge (pc := 11) (tgt := 68) dX9_modularSum_11 (by decide) ?_ ?_
  · skip
    refine sm_lload_n (pc := 68) (n := 3) dX9_modularSum_68 rfl ?_
    exact sm_lreturn (pc := 69) dX9_modularSum_69 rfl
  · skip
    refine sm_aloadV_n (pc := 14) (n := 0) dX9_modularSum_14 rfl ?_
    refine gf_X9_26 (pc := 15) rfl dX9_modularSum_15 ?_
    refine sm_iload (pc := 18) (n := 5) dX9_modularSum_18 ?_
    refine sm_baloadQ (pc := 20) dX9_modularSum_20 ?_
    refine sm_joinJ (pc := 21) (pc' := 62) (j := 1) (fun G0 hG0 => @sbX9_modularSumv_62 d G0 P r5 (hr5.mv hG0 (by decide))) (fun j62 hj62 => ?_)
    refine sm_ifS_eq (pc := 21) (tgt := 62) dX9_modularSum_21 (by decide) ?_ ?_
    · skip
      exact hj62.use
    · skip
      refine sm_lload_n (pc := 24) (n := 3) dX9_modularSum_24 rfl ?_
      refine sm_aloadV_n (pc := 25) (n := 0) dX9_modularSum_25 rfl ?_
      refine gf_X9_115 (pc := 26) rfl dX9_modularSum_26 ?_
      refine sm_bipush (pc := 29) dX9_modularSum_29 zc_b_11 ?_
      refine sm_iload_n (pc := 31) (n := 1) dX9_modularSum_31 rfl ?_
      refine sm_imulR (pc := 32) dX9_modularSum_32 ?_
      refine sm_iload (pc := 33) (n := 5) dX9_modularSum_33 ?_
      refine sm_iaddR (pc := 35) dX9_modularSum_35 ?_
      refine sm_laloadB (pc := 36) dX9_modularSum_36 ?_
      refine sm_aloadV_n (pc := 37) (n := 0) dX9_modularSum_37 rfl ?_
      refine gf_X9_16 (pc := 38) rfl dX9_modularSum_38 ?_
      refine sm_iload (pc := 41) (n := 5) dX9_modularSum_41 ?_
      refine sm_ialoadQ (pc := 43) dX9_modularSum_43 ?_
      refine sm_i2lR (pc := 44) dX9_modularSum_44 ?_
      refine sm_lmul (pc := 45) dX9_modularSum_45 ?_
      exact scX9_modularSumv_46 P j62 hj62
noncomputable def b_X9_modularSumv {d : Nat} (P : zP d) : zK d := (xpL 0 (xlst 3 (xpI 0 (xist 5 (xloop (fun r5 => (lX9_modularSumv_5 P r5)) 100000)))))
set_option maxRecDepth 100000 in
set_option maxHeartbeats 4000000 in
theorem s_X9_modularSumv {d : Nat} [zGh] (P : zP d) : zSim X_X9_modularSum 1 P 0 (b_X9_modularSumv P) := by
  unfold b_X9_modularSumv
  refine sm_lconst (pc := 0) dX9_modularSum_0 zc_l_0 ?_
  refine sm_lstore_n (pc := 1) (n := 3) dX9_modularSum_1 rfl ?_
  refine sm_iconst (pc := 2) dX9_modularSum_2 zc_i_0 ?_
  refine sm_istore (pc := 3) (n := 5) dX9_modularSum_3 ?_
  exact (sm_loopJ (j := 1) (fun G1 hG1 r5 hr5 => @slX9_modularSumv_5 d G1 P r5 hr5) _).use
noncomputable def f_X9_modularSumv {d : Nat} : List zV → zH d → zP d → Bool := zfn 6 (b_X9_modularSumv )
theorem m_X9_modularSumv {d : Nat} : zMet (d := d) X_X9_modularSum yX9_modularSum 1 (f_X9_modularSumv ) := zmet_mk (X := X_X9_modularSum) (by decide) rfl rfl (fun P => s_X9_modularSumv P)

noncomputable def bX9_areWholev_78 {d : Nat} (P : zP d) (r3 : zK d) : zK d := (xincR 4 1 r3)
set_option maxRecDepth 100000 in
set_option maxHeartbeats 4000000 in
theorem sbX9_areWholev_78 {d : Nat} [zGh] (P : zP d) (r3 : zK d) (hr3 : zSimJ 1 X_X9_areWhole 2 P 3 r3) : zSim X_X9_areWhole 2 P 78 (bX9_areWholev_78 P r3) := by
  unfold bX9_areWholev_78
  refine sm_iincR (pc := 78) (n := 4) dX9_areWhole_78 zc_i_1 ?_
  refine sm_goto (pc := 81) (tgt := 3) dX9_areWhole_81 (by decide) ?_
  exact hr3.use
noncomputable def bX9_areWholev_76 {d : Nat} (P : zP d) : zK d := (xpI 0 (xzret P))
set_option maxRecDepth 100000 in
set_option maxHeartbeats 4000000 in
theorem sbX9_areWholev_76 {d : Nat} [zGh] (P : zP d) : zSim X_X9_areWhole 2 P 76 (bX9_areWholev_76 P) := by
  unfold bX9_areWholev_76
  refine sm_iconst (pc := 76) dX9_areWhole_76 zc_i_0 ?_
  exact sm_zreturn (pc := 77) dX9_areWhole_77 rfl
noncomputable def bX9_areWholev_50 {d : Nat} (P : zP d) (j78 : zK d) : zK d := (xlst 5 (xlld 5 (xaldV 0 (xgfI 25 12 (xi2lR (xbinjN zremj (xpL 0 (xlcmpR (xjoin (bX9_areWholev_76 P) (fun j76 => (xif0S teqR rlEq rhEq rlNe rhNe (xild 3 (xif0S teqR rlEq rhEq rlNe rhNe j78 (xlld 5 (xpL 0 (xlcmpR (xif0S tgeR rlGe rhS rlS rhLt j78 j76)))))) j76)))))))))))
set_option maxRecDepth 100000 in
set_option maxHeartbeats 4000000 in
theorem sbX9_areWholev_50 {d : Nat} [zGh] (P : zP d) (j78 : zK d) (hj78 : zSimJ 1 X_X9_areWhole 2 P 78 j78) : zSim X_X9_areWhole 2 P 50 (bX9_areWholev_50 P j78) := by
  unfold bX9_areWholev_50
  refine sm_lstore (pc := 50) (n := 5) dX9_areWhole_50 ?_
  refine sm_lload (pc := 52) (n := 5) dX9_areWhole_52 ?_
  refine sm_aloadV_n (pc := 54) (n := 0) dX9_areWhole_54 rfl ?_
  refine gf_X9_166 (pc := 55) rfl dX9_areWhole_55 ?_
  refine sm_i2lR (pc := 58) dX9_areWhole_58 ?_
  refine sm_lrem (pc := 59) dX9_areWhole_59 ?_
  refine sm_lconst (pc := 60) dX9_areWhole_60 zc_l_0 ?_
  refine sm_lcmpR (pc := 61) dX9_areWhole_61 ?_
  refine sm_joinJ (pc := 62) (pc' := 76) (j := 1) (fun G0 hG0 => @sbX9_areWholev_76 d G0 P) (fun j76 hj76 => ?_)
  refine sm_ifS_ne (pc := 62) (tgt := 76) dX9_areWhole_62 (by decide) ?_ ?_
  · skip
    exact hj76.use
  · skip
    refine sm_iload_n (pc := 65) (n := 3) dX9_areWhole_65 rfl ?_
    refine sm_ifS_eq (pc := 66) (tgt := 78) dX9_areWhole_66 (by decide) ?_ ?_
    · skip
      exact hj78.use
    · skip
      refine sm_lload (pc := 69) (n := 5) dX9_areWhole_69 ?_
      refine sm_lconst (pc := 71) dX9_areWhole_71 zc_l_0 ?_
      refine sm_lcmpR (pc := 72) dX9_areWhole_72 ?_
      refine sm_ifS_ge (pc := 73) (tgt := 78) dX9_areWhole_73 (by decide) ?_ ?_
      · skip
        exact hj78.use
      · skip
        exact hj76.use
noncomputable def bX9_areWholev_29 {d : Nat} (P : zP d) (j78 : zK d) : zK d := (xild 2 (xjoin (bX9_areWholev_50 P j78) (fun j50 => (xif0S teqR rlEq rhEq rlNe rhNe (xaldV 0 (xild 1 (xild 4 (xcV 25 3 0 0 (zstr f_X9_ordinarySumv) j50)))) (xaldV 0 (xild 1 (xild 4 (xcV 25 3 0 0 (zstr f_X9_modularSumv) j50))))))))
set_option maxRecDepth 100000 in
set_option maxHeartbeats 4000000 in
theorem sbX9_areWholev_29 {d : Nat} [zGh] (P : zP d) (j78 : zK d) (hj78 : zSimJ 1 X_X9_areWhole 2 P 78 j78) : zSim X_X9_areWhole 2 P 29 (bX9_areWholev_29 P j78) := by
  unfold bX9_areWholev_29
  refine sm_iload_n (pc := 29) (n := 2) dX9_areWhole_29 rfl ?_
  refine sm_joinJ (pc := 30) (pc' := 50) (j := 1) (fun G0 hG0 => @sbX9_areWholev_50 d G0 P j78 (hj78.mv hG0 (by decide))) (fun j50 hj50 => ?_)
  refine sm_ifS_eq (pc := 30) (tgt := 43) dX9_areWhole_30 (by decide) ?_ ?_
  · skip
    refine sm_aloadV_n (pc := 43) (n := 0) dX9_areWhole_43 rfl ?_
    refine sm_iload_n (pc := 44) (n := 1) dX9_areWhole_44 rfl ?_
    refine sm_iload (pc := 45) (n := 4) dX9_areWhole_45 ?_
    refine sm_cV (pc := 47) (ci := 9) (n := 3) (mc := 0) (ms := 0) rfl (zMet_str m_X9_ordinarySumv) (cr_X9_328 (X := X_X9_areWhole) (fr := 2) (frc := 1) (pc := 47) (mc := 0) (ms := 0) rfl (by decide) dX9_areWhole_47) ?_
    exact hj50.use
  · skip
    refine sm_aloadV_n (pc := 33) (n := 0) dX9_areWhole_33 rfl ?_
    refine sm_iload_n (pc := 34) (n := 1) dX9_areWhole_34 rfl ?_
    refine sm_iload (pc := 35) (n := 4) dX9_areWhole_35 ?_
    refine sm_cV (pc := 37) (ci := 9) (n := 3) (mc := 0) (ms := 0) rfl (zMet_str m_X9_modularSumv) (cr_X9_332 (X := X_X9_areWhole) (fr := 2) (frc := 1) (pc := 37) (mc := 0) (ms := 0) rfl (by decide) dX9_areWhole_37) ?_
    refine sm_goto (pc := 40) (tgt := 50) dX9_areWhole_40 (by decide) ?_
    exact hj50.use
noncomputable def lX9_areWholev_3 {d : Nat} (P : zP d) (r3 : zK d) : zK d := (xild 4 (xaldV 0 (xgfI 25 2 (xcmpS tgeR rlGe rhS rlS rhLt (xpI 1 (xzret P)) (xild 2 (xjoin (bX9_areWholev_78 P r3) (fun j78 => (xjoin (bX9_areWholev_29 P j78) (fun j29 => (xif0S teqR rlEq rhEq rlNe rhNe j29 (xaldV 0 (xgfR 25 7 (xild 4 (xalQ 1 (xif0S teqR rlEq rhEq rlNe rhNe j78 j29)))))))))))))))
set_option maxRecDepth 100000 in
set_option maxHeartbeats 4000000 in
theorem slX9_areWholev_3 {d : Nat} [zGh] (P : zP d) (r3 : zK d) (hr3 : zSimJ 1 X_X9_areWhole 2 P 3 r3) : zSim X_X9_areWhole 2 P 3 (lX9_areWholev_3 P r3) := by
  unfold lX9_areWholev_3
  refine sm_iload (pc := 3) (n := 4) dX9_areWhole_3 ?_
  refine sm_aloadV_n (pc := 5) (n := 0) dX9_areWhole_5 rfl ?_
  refine gf_X9_153 (pc := 6) rfl dX9_areWhole_6 ?_
  refine sm_icmpS_ge (pc := 9) (tgt := 84) dX9_areWhole_9 (by decide) ?_ ?_
  · skip
    refine sm_iconst (pc := 84) dX9_areWhole_84 zc_i_1 ?_
    exact sm_zreturn (pc := 85) dX9_areWhole_85 rfl
  · skip
    refine sm_iload_n (pc := 12) (n := 2) dX9_areWhole_12 rfl ?_
    refine sm_joinJ (pc := 13) (pc' := 78) (j := 1) (fun G0 hG0 => @sbX9_areWholev_78 d G0 P r3 (hr3.mv hG0 (by decide))) (fun j78 hj78 => ?_)
    refine sm_joinJ (pc := 13) (pc' := 29) (j := 1) (fun G0 hG0 => @sbX9_areWholev_29 d G0 P j78 (hj78.mv hG0 (by decide))) (fun j29 hj29 => ?_)
    refine sm_ifS_eq (pc := 13) (tgt := 29) dX9_areWhole_13 (by decide) ?_ ?_
    · skip
      exact hj29.use
    · skip
      refine sm_aloadV_n (pc := 16) (n := 0) dX9_areWhole_16 rfl ?_
      refine gf_X9_22 (pc := 17) rfl dX9_areWhole_17 ?_
      refine sm_iload (pc := 20) (n := 4) dX9_areWhole_20 ?_
      refine sm_baloadQ (pc := 22) dX9_areWhole_22 ?_
      refine sm_ifS_ne (pc := 23) (tgt := 29) dX9_areWhole_23 (by decide) ?_ ?_
      · skip
        exact hj29.use
      · skip
        refine sm_goto (pc := 26) (tgt := 78) dX9_areWhole_26 (by decide) ?_
        exact hj78.use
noncomputable def b_X9_areWholev {d : Nat} (P : zP d) : zK d := (xpI 0 (xist 4 (xloop (fun r3 => (lX9_areWholev_3 P r3)) 100000)))
set_option maxRecDepth 100000 in
set_option maxHeartbeats 4000000 in
theorem s_X9_areWholev {d : Nat} [zGh] (P : zP d) : zSim X_X9_areWhole 2 P 0 (b_X9_areWholev P) := by
  unfold b_X9_areWholev
  refine sm_iconst (pc := 0) dX9_areWhole_0 zc_i_0 ?_
  refine sm_istore (pc := 1) (n := 4) dX9_areWhole_1 ?_
  exact (sm_loopJ (j := 1) (fun G1 hG1 r3 hr3 => @slX9_areWholev_3 d G1 P r3 hr3) _).use
noncomputable def f_X9_areWholev {d : Nat} : List zV → zH d → zP d → Bool := zfn 7 (b_X9_areWholev )
theorem m_X9_areWholev {d : Nat} : zMet (d := d) X_X9_areWhole yX9_areWhole 2 (f_X9_areWholev ) := zmet_mk (X := X_X9_areWhole) (by decide) rfl rfl (fun P => s_X9_areWholev P)

noncomputable def bX9_valuev_32 {d : Nat} (P : zP d) : zK d := (xlret P)
set_option maxRecDepth 100000 in
set_option maxHeartbeats 4000000 in
theorem sbX9_valuev_32 {d : Nat} [zGh] (P : zP d) : zSim X_X9_value 3 P 32 (bX9_valuev_32 P) := by
  unfold bX9_valuev_32
  exact sm_lreturn (pc := 32) dX9_value_32 rfl
noncomputable def bX9_valuev_29 {d : Nat} (P : zP d) (j32 : zK d) : zK d := (xpL 9223372036854775808 j32)
set_option maxRecDepth 100000 in
set_option maxHeartbeats 4000000 in
theorem sbX9_valuev_29 {d : Nat} [zGh] (P : zP d) (j32 : zK d) (hj32 : zSimJ 1 X_X9_value 3 P 32 j32) : zSim X_X9_value 3 P 29 (bX9_valuev_29 P j32) := by
  unfold bX9_valuev_29
  refine sm_ldc2 (pc := 29) dX9_value_29 wd_1311 zc_cl_m9223372036854775808 ?_
  exact hj32.use
noncomputable def b_X9_valuev {d : Nat} (P : zP d) : zK d := (xild 1 (xcS 1 0 0 (zstr f_X9_isSlota) (xjoin (bX9_valuev_32 P) (fun j32 => (xjoin (bX9_valuev_29 P j32) (fun j29 => (xif0S teqR rlEq rhEq rlNe rhNe j29 (xaldV 0 (xild 2 (xcV 25 2 0 0 (zstr f_X9_isParta) (xif0S teqR rlEq rhEq rlNe rhNe j29 (xaldV 0 (xgfR 25 43 (xpI 11 (xild 1 (xbin zmulR (xild 2 (xbin zaddR (xlalB j32)))))))))))))))))))
set_option maxRecDepth 100000 in
set_option maxHeartbeats 4000000 in
theorem s_X9_valuev {d : Nat} [zGh] (P : zP d) : zSim X_X9_value 3 P 0 (b_X9_valuev P) := by
  unfold b_X9_valuev
  refine sm_iload_n (pc := 0) (n := 1) dX9_value_0 rfl ?_
  refine sm_cS (pc := 1) (n := 1) (mc := 0) (ms := 0) (zMet_str m_X9_isSlota) (cr_X9_319 (X := X_X9_value) (fr := 3) (frc := 2) (pc := 1) (mc := 0) (ms := 0) rfl (by decide) dX9_value_1) ?_
  refine sm_joinJ (pc := 4) (pc' := 32) (j := 1) (fun G0 hG0 => @sbX9_valuev_32 d G0 P) (fun j32 hj32 => ?_)
  refine sm_joinJ (pc := 4) (pc' := 29) (j := 1) (fun G0 hG0 => @sbX9_valuev_29 d G0 P j32 (hj32.mv hG0 (by decide))) (fun j29 hj29 => ?_)
  refine sm_ifS_eq (pc := 4) (tgt := 29) dX9_value_4 (by decide) ?_ ?_
  · skip
    exact hj29.use
  · skip
    refine sm_aloadV_n (pc := 7) (n := 0) dX9_value_7 rfl ?_
    refine sm_iload_n (pc := 8) (n := 2) dX9_value_8 rfl ?_
    refine sm_cV (pc := 9) (ci := 9) (n := 2) (mc := 0) (ms := 0) rfl (zMet_str m_X9_isParta) (cr_X9_287 (X := X_X9_value) (fr := 3) (frc := 2) (pc := 9) (mc := 0) (ms := 0) rfl (by decide) dX9_value_9) ?_
    refine sm_ifS_eq (pc := 12) (tgt := 29) dX9_value_12 (by decide) ?_ ?_
    · skip
      exact hj29.use
    · skip
      refine sm_aloadV_n (pc := 15) (n := 0) dX9_value_15 rfl ?_
      refine gf_X9_115 (pc := 16) rfl dX9_value_16 ?_
      refine sm_bipush (pc := 19) dX9_value_19 zc_b_11 ?_
      refine sm_iload_n (pc := 21) (n := 1) dX9_value_21 rfl ?_
      refine sm_imulR (pc := 22) dX9_value_22 ?_
      refine sm_iload_n (pc := 23) (n := 2) dX9_value_23 rfl ?_
      refine sm_iaddR (pc := 24) dX9_value_24 ?_
      refine sm_laloadB (pc := 25) dX9_value_25 ?_
      refine sm_goto (pc := 26) (tgt := 32) dX9_value_26 (by decide) ?_
      exact hj32.use
noncomputable def f_X9_valuev {d : Nat} : List zV → zH d → zP d → Bool := zfn 3 (b_X9_valuev )
theorem m_X9_valuev {d : Nat} : zMet (d := d) X_X9_value yX9_value 3 (f_X9_valuev ) := zmet_mk (X := X_X9_value) (by decide) rfl rfl (fun P => s_X9_valuev P)

noncomputable def bX9_partsv_43 {d : Nat} (P : zP d) : zK d := (xpL 9223372036854775808 (xlret P))
set_option maxRecDepth 100000 in
set_option maxHeartbeats 4000000 in
theorem sbX9_partsv_43 {d : Nat} [zGh] (P : zP d) : zSim X_X9_parts 3 P 43 (bX9_partsv_43 P) := by
  unfold bX9_partsv_43
  refine sm_ldc2 (pc := 43) dX9_parts_43 wd_1311 zc_cl_m9223372036854775808 ?_
  exact sm_lreturn (pc := 46) dX9_parts_46 rfl
noncomputable def bX9_partsv_103 {d : Nat} (P : zP d) : zK d := (xlret P)
set_option maxRecDepth 100000 in
set_option maxHeartbeats 4000000 in
theorem sbX9_partsv_103 {d : Nat} [zGh] (P : zP d) : zSim X_X9_parts 3 P 103 (bX9_partsv_103 P) := by
  unfold bX9_partsv_103
  exact sm_lreturn (pc := 103) dX9_parts_103 rfl
noncomputable def bX9_partsv_68 {d : Nat} (P : zP d) : zK d := (xlst 4 (xlld 4 (xaldV 0 (xgfI 25 12 (xi2lR (xcS 2 0 0 (zstr gX_X9_divisor) (xlst 6 (xild 3 (xpI 2 (xjoin (bX9_partsv_103 P) (fun j103 => (xcmpS tgeR rlGe rhS rlS rhLt (xaldV 0 (xgfI 25 12 (xi2lR (xlld 6 (xdvT j103))))) (xlld 4 (xlld 6 (xdvT j103)))))))))))))))
set_option maxRecDepth 100000 in
set_option maxHeartbeats 4000000 in
theorem sbX9_partsv_68 {d : Nat} [zGh] (P : zP d) : zSim X_X9_parts 3 P 68 (bX9_partsv_68 P) := by
  unfold bX9_partsv_68
  refine sm_lstore (pc := 68) (n := 4) dX9_parts_68 ?_
  refine sm_lload (pc := 70) (n := 4) dX9_parts_70 ?_
  refine sm_aloadV_n (pc := 72) (n := 0) dX9_parts_72 rfl ?_
  refine gf_X9_166 (pc := 73) rfl dX9_parts_73 ?_
  refine sm_i2lR (pc := 76) dX9_parts_76 ?_
  refine sm_cS (pc := 77) (n := 2) (mc := 0) (ms := 0) (zMet_str mX_X9_divisor) (cr_X9_335 (X := X_X9_parts) (fr := 3) (frc := 1) (pc := 77) (mc := 0) (ms := 0) rfl (by decide) dX9_parts_77) ?_
  refine sm_lstore (pc := 80) (n := 6) dX9_parts_80 ?_
  refine sm_iload_n (pc := 82) (n := 3) dX9_parts_82 rfl ?_
  refine sm_iconst (pc := 83) dX9_parts_83 zc_i_2 ?_
  refine sm_joinJ (pc := 84) (pc' := 103) (j := 1) (fun G0 hG0 => @sbX9_partsv_103 d G0 P) (fun j103 hj103 => ?_)
  refine sm_icmpS_ge (pc := 84) (tgt := 95) dX9_parts_84 (by decide) ?_ ?_
  · skip
    refine sm_aloadV_n (pc := 95) (n := 0) dX9_parts_95 rfl ?_
    refine gf_X9_166 (pc := 96) rfl dX9_parts_96 ?_
    refine sm_i2lR (pc := 99) dX9_parts_99 ?_
    refine sm_lload (pc := 100) (n := 6) dX9_parts_100 ?_
    refine sm_ldivT (pc := 102) dX9_parts_102 ?_
    exact hj103.use
  · skip
    refine sm_lload (pc := 87) (n := 4) dX9_parts_87 ?_
    refine sm_lload (pc := 89) (n := 6) dX9_parts_89 ?_
    refine sm_ldivT (pc := 91) dX9_parts_91 ?_
    refine sm_goto (pc := 92) (tgt := 103) dX9_parts_92 (by decide) ?_
    exact hj103.use
noncomputable def bX9_partsv_47 {d : Nat} (P : zP d) : zK d := (xild 3 (xpI 2 (xbinN zremR (xjoin (bX9_partsv_68 P) (fun j68 => (xif0S teqR rlEq rhEq rlNe rhNe (xaldV 0 (xild 1 (xild 2 (xcV 25 3 0 0 (zstr f_X9_ordinarySumv) j68)))) (xaldV 0 (xild 1 (xild 2 (xcV 25 3 0 0 (zstr f_X9_modularSumv) j68))))))))))
set_option maxRecDepth 100000 in
set_option maxHeartbeats 4000000 in
theorem sbX9_partsv_47 {d : Nat} [zGh] (P : zP d) : zSim X_X9_parts 3 P 47 (bX9_partsv_47 P) := by
  unfold bX9_partsv_47
  refine sm_iload_n (pc := 47) (n := 3) dX9_parts_47 rfl ?_
  refine sm_iconst (pc := 48) dX9_parts_48 zc_i_2 ?_
  refine sm_iremR (pc := 49) dX9_parts_49 ?_
  refine sm_joinJ (pc := 50) (pc' := 68) (j := 1) (fun G0 hG0 => @sbX9_partsv_68 d G0 P) (fun j68 hj68 => ?_)
  refine sm_ifS_ne (pc := 50) (tgt := 62) dX9_parts_50 (by decide) ?_ ?_
  · skip
    refine sm_aloadV_n (pc := 62) (n := 0) dX9_parts_62 rfl ?_
    refine sm_iload_n (pc := 63) (n := 1) dX9_parts_63 rfl ?_
    refine sm_iload_n (pc := 64) (n := 2) dX9_parts_64 rfl ?_
    refine sm_cV (pc := 65) (ci := 9) (n := 3) (mc := 0) (ms := 0) rfl (zMet_str m_X9_modularSumv) (cr_X9_332 (X := X_X9_parts) (fr := 3) (frc := 1) (pc := 65) (mc := 0) (ms := 0) rfl (by decide) dX9_parts_65) ?_
    exact hj68.use
  · skip
    refine sm_aloadV_n (pc := 53) (n := 0) dX9_parts_53 rfl ?_
    refine sm_iload_n (pc := 54) (n := 1) dX9_parts_54 rfl ?_
    refine sm_iload_n (pc := 55) (n := 2) dX9_parts_55 rfl ?_
    refine sm_cV (pc := 56) (ci := 9) (n := 3) (mc := 0) (ms := 0) rfl (zMet_str m_X9_ordinarySumv) (cr_X9_328 (X := X_X9_parts) (fr := 3) (frc := 1) (pc := 56) (mc := 0) (ms := 0) rfl (by decide) dX9_parts_56) ?_
    refine sm_goto (pc := 59) (tgt := 68) dX9_parts_59 (by decide) ?_
    exact hj68.use
noncomputable def b_X9_partsv {d : Nat} (P : zP d) : zK d := (xild 1 (xcS 1 0 0 (zstr f_X9_isSlota) (xjoin (bX9_partsv_43 P) (fun j43 => (xif0S teqR rlEq rhEq rlNe rhNe j43 (xaldV 0 (xild 2 (xcV 25 2 0 0 (zstr f_X9_isParta) (xif0S teqR rlEq rhEq rlNe rhNe j43 (xild 3 (xi2lR (xpL 0 (xpL 3 (xcS 3 0 0 (zstr f_X9_isIna) (xif0S teqR rlEq rhEq rlNe rhNe j43 (xild 3 (xpI 2 (xbinN zremR (xpI 1 (xjoin (bX9_partsv_47 P) (fun j47 => (xcmpS teqR rlEq rhEq rlNe rhNe (xaldV 0 (xgfR 25 7 (xild 2 (xalQ 1 (xif0S teqR rlEq rhEq rlNe rhNe j43 j47))))) j47))))))))))))))))))))))
set_option maxRecDepth 100000 in
set_option maxHeartbeats 4000000 in
theorem s_X9_partsv {d : Nat} [zGh] (P : zP d) : zSim X_X9_parts 3 P 0 (b_X9_partsv P) := by
  unfold b_X9_partsv
  refine sm_iload_n (pc := 0) (n := 1) dX9_parts_0 rfl ?_
  refine sm_cS (pc := 1) (n := 1) (mc := 0) (ms := 0) (zMet_str m_X9_isSlota) (cr_X9_319 (X := X_X9_parts) (fr := 3) (frc := 2) (pc := 1) (mc := 0) (ms := 0) rfl (by decide) dX9_parts_1) ?_
  refine sm_joinJ (pc := 4) (pc' := 43) (j := 1) (fun G0 hG0 => @sbX9_partsv_43 d G0 P) (fun j43 hj43 => ?_)
  refine sm_ifS_eq (pc := 4) (tgt := 43) dX9_parts_4 (by decide) ?_ ?_
  · skip
    exact hj43.use
  · skip
    refine sm_aloadV_n (pc := 7) (n := 0) dX9_parts_7 rfl ?_
    refine sm_iload_n (pc := 8) (n := 2) dX9_parts_8 rfl ?_
    refine sm_cV (pc := 9) (ci := 9) (n := 2) (mc := 0) (ms := 0) rfl (zMet_str m_X9_isParta) (cr_X9_287 (X := X_X9_parts) (fr := 3) (frc := 2) (pc := 9) (mc := 0) (ms := 0) rfl (by decide) dX9_parts_9) ?_
    refine sm_ifS_eq (pc := 12) (tgt := 43) dX9_parts_12 (by decide) ?_ ?_
    · skip
      exact hj43.use
    · skip
      refine sm_iload_n (pc := 15) (n := 3) dX9_parts_15 rfl ?_
      refine sm_i2lR (pc := 16) dX9_parts_16 ?_
      refine sm_lconst (pc := 17) dX9_parts_17 zc_l_0 ?_
      refine sm_ldc2 (pc := 18) dX9_parts_18 wd_1316 zc_cl_3 ?_
      refine sm_cS (pc := 21) (n := 3) (mc := 0) (ms := 0) (zMet_str m_X9_isIna) (cr_X9_283 (X := X_X9_parts) (fr := 3) (frc := 1) (pc := 21) (mc := 0) (ms := 0) rfl (by decide) dX9_parts_21) ?_
      refine sm_ifS_eq (pc := 24) (tgt := 43) dX9_parts_24 (by decide) ?_ ?_
      · skip
        exact hj43.use
      · skip
        refine sm_iload_n (pc := 27) (n := 3) dX9_parts_27 rfl ?_
        refine sm_iconst (pc := 28) dX9_parts_28 zc_i_2 ?_
        refine sm_iremR (pc := 29) dX9_parts_29 ?_
        refine sm_iconst (pc := 30) dX9_parts_30 zc_i_1 ?_
        refine sm_joinJ (pc := 31) (pc' := 47) (j := 1) (fun G0 hG0 => @sbX9_partsv_47 d G0 P) (fun j47 hj47 => ?_)
        refine sm_icmpS_ne (pc := 31) (tgt := 47) dX9_parts_31 (by decide) ?_ ?_
        · skip
          exact hj47.use
        · skip
          refine sm_aloadV_n (pc := 34) (n := 0) dX9_parts_34 rfl ?_
          refine gf_X9_22 (pc := 35) rfl dX9_parts_35 ?_
          refine sm_iload_n (pc := 38) (n := 2) dX9_parts_38 rfl ?_
          refine sm_baloadQ (pc := 39) dX9_parts_39 ?_
          refine sm_ifS_ne (pc := 40) (tgt := 47) dX9_parts_40 (by decide) ?_ ?_
          · skip
            exact hj47.use
          · skip
            exact hj43.use
noncomputable def f_X9_partsv {d : Nat} : List zV → zH d → zP d → Bool := zfn 8 (b_X9_partsv )
theorem m_X9_partsv {d : Nat} : zMet (d := d) X_X9_parts yX9_parts 3 (f_X9_partsv ) := zmet_mk (X := X_X9_parts) (by decide) rfl rfl (fun P => s_X9_partsv P)

noncomputable def bX9_innerv_14 {d : Nat} (P : zP d) : zK d := (xpL 18446744073709551615 (xlret P))
set_option maxRecDepth 100000 in
set_option maxHeartbeats 4000000 in
theorem sbX9_innerv_14 {d : Nat} [zGh] (P : zP d) : zSim X_X9_inner 3 P 14 (bX9_innerv_14 P) := by
  unfold bX9_innerv_14
  refine sm_ldc2 (pc := 14) dX9_inner_14 wd_1332 zc_cl_m1 ?_
  exact sm_lreturn (pc := 17) dX9_inner_17 rfl
noncomputable def cX9_innerv_62 {d : Nat} (P : zP d) (r23 : zK d) : zK d := (xild 5 (xalQ 0 (xi2lR (xbinj zmulj (xbinj zaddj (xlst 3 (xincR 5 1 r23)))))))
set_option maxRecDepth 100000 in
set_option maxHeartbeats 4000000 in
theorem scX9_innerv_62 {d : Nat} [zGh] (P : zP d) (r23 : zK d) (hr23 : zSimJ 1 X_X9_inner 3 P 23 r23) : zSim X_X9_inner 3 P 62 (cX9_innerv_62 P r23) := by
  unfold cX9_innerv_62
  refine sm_iload (pc := 62) (n := 5) dX9_inner_62 ?_
  refine sm_ialoadQ (pc := 64) dX9_inner_64 ?_
  refine sm_i2lR (pc := 65) dX9_inner_65 ?_
  refine sm_lmul (pc := 66) dX9_inner_66 ?_
  refine sm_ladd (pc := 67) dX9_inner_67 ?_
  refine sm_lstore_n (pc := 68) (n := 3) dX9_inner_68 rfl ?_
  refine sm_iincR (pc := 69) (n := 5) dX9_inner_69 zc_i_1 ?_
  refine sm_goto (pc := 72) (tgt := 23) dX9_inner_72 (by decide) ?_
  exact hr23.use
noncomputable def lX9_innerv_23 {d : Nat} (P : zP d) (r23 : zK d) : zK d := (xild 5 (xaldV 0 (xgfI 25 2 (xcmpS tgeR rlGe rhS rlS rhLt (xlld 3 (xlret P)) (xlld 3 (xaldV 0 (xgfR 25 43 (xpI 11 (xild 1 (xbin zmulR (xild 5 (xbin zaddR (xlalB (xaldV 0 (xgfR 25 43 (xpI 11 (xild 2 (xbin zmulR (xild 5 (xbin zaddR (xlalB (xbinj zmulj (xaldV 0 (xgfR 25 5 (cX9_innerv_62 P r23)))))))))))))))))))))))))
set_option maxRecDepth 100000 in
set_option maxHeartbeats 4000000 in
theorem slX9_innerv_23 {d : Nat} [zGh] (P : zP d) (r23 : zK d) (hr23 : zSimJ 1 X_X9_inner 3 P 23 r23) : zSim X_X9_inner 3 P 23 (lX9_innerv_23 P r23) := by
  unfold lX9_innerv_23
  refine sm_iload (pc := 23) (n := 5) dX9_inner_23 ?_
  refine sm_aloadV_n (pc := 25) (n := 0) dX9_inner_25 rfl ?_
  refine gf_X9_153 (pc := 26) rfl dX9_inner_26 ?_
  refine sm_icmpS_ge (pc := 29) (tgt := 75) dX9_inner_29 (by decide) ?_ ?_
  · skip
    refine sm_lload_n (pc := 75) (n := 3) dX9_inner_75 rfl ?_
    exact sm_lreturn (pc := 76) dX9_inner_76 rfl
  · skip
    refine sm_lload_n (pc := 32) (n := 3) dX9_inner_32 rfl ?_
    refine sm_aloadV_n (pc := 33) (n := 0) dX9_inner_33 rfl ?_
    refine gf_X9_115 (pc := 34) rfl dX9_inner_34 ?_
    refine sm_bipush (pc := 37) dX9_inner_37 zc_b_11 ?_
    refine sm_iload_n (pc := 39) (n := 1) dX9_inner_39 rfl ?_
    refine sm_imulR (pc := 40) dX9_inner_40 ?_
    refine sm_iload (pc := 41) (n := 5) dX9_inner_41 ?_
    refine sm_iaddR (pc := 43) dX9_inner_43 ?_
    refine sm_laloadB (pc := 44) dX9_inner_44 ?_
    refine sm_aloadV_n (pc := 45) (n := 0) dX9_inner_45 rfl ?_
    refine gf_X9_115 (pc := 46) rfl dX9_inner_46 ?_
    refine sm_bipush (pc := 49) dX9_inner_49 zc_b_11 ?_
    refine sm_iload_n (pc := 51) (n := 2) dX9_inner_51 rfl ?_
    refine sm_imulR (pc := 52) dX9_inner_52 ?_
    refine sm_iload (pc := 53) (n := 5) dX9_inner_53 ?_
    refine sm_iaddR (pc := 55) dX9_inner_55 ?_
    refine sm_laloadB (pc := 56) dX9_inner_56 ?_
    refine sm_lmul (pc := 57) dX9_inner_57 ?_
    refine sm_aloadV_n (pc := 58) (n := 0) dX9_inner_58 rfl ?_
    refine gf_X9_16 (pc := 59) rfl dX9_inner_59 ?_
    exact scX9_innerv_62 P r23 hr23
noncomputable def b_X9_innerv {d : Nat} (P : zP d) : zK d := (xild 1 (xcS 1 0 0 (zstr f_X9_isSlota) (xjoin (bX9_innerv_14 P) (fun j14 => (xif0S teqR rlEq rhEq rlNe rhNe j14 (xild 2 (xcS 1 0 0 (zstr f_X9_isSlota) (xif0S teqR rlEq rhEq rlNe rhNe j14 (xpL 0 (xlst 3 (xpI 0 (xist 5 (xloop (fun r23 => (lX9_innerv_23 P r23)) 100000)))))))))))))
set_option maxRecDepth 100000 in
set_option maxHeartbeats 4000000 in
theorem s_X9_innerv {d : Nat} [zGh] (P : zP d) : zSim X_X9_inner 3 P 0 (b_X9_innerv P) := by
  unfold b_X9_innerv
  refine sm_iload_n (pc := 0) (n := 1) dX9_inner_0 rfl ?_
  refine sm_cS (pc := 1) (n := 1) (mc := 0) (ms := 0) (zMet_str m_X9_isSlota) (cr_X9_319 (X := X_X9_inner) (fr := 3) (frc := 2) (pc := 1) (mc := 0) (ms := 0) rfl (by decide) dX9_inner_1) ?_
  refine sm_joinJ (pc := 4) (pc' := 14) (j := 1) (fun G0 hG0 => @sbX9_innerv_14 d G0 P) (fun j14 hj14 => ?_)
  refine sm_ifS_eq (pc := 4) (tgt := 14) dX9_inner_4 (by decide) ?_ ?_
  · skip
    exact hj14.use
  · skip
    refine sm_iload_n (pc := 7) (n := 2) dX9_inner_7 rfl ?_
    refine sm_cS (pc := 8) (n := 1) (mc := 0) (ms := 0) (zMet_str m_X9_isSlota) (cr_X9_319 (X := X_X9_inner) (fr := 3) (frc := 2) (pc := 8) (mc := 0) (ms := 0) rfl (by decide) dX9_inner_8) ?_
    refine sm_ifS_ne (pc := 11) (tgt := 18) dX9_inner_11 (by decide) ?_ ?_
    · skip
      refine sm_lconst (pc := 18) dX9_inner_18 zc_l_0 ?_
      refine sm_lstore_n (pc := 19) (n := 3) dX9_inner_19 rfl ?_
      refine sm_iconst (pc := 20) dX9_inner_20 zc_i_0 ?_
      refine sm_istore (pc := 21) (n := 5) dX9_inner_21 ?_
      exact (sm_loopJ (j := 1) (fun G1 hG1 r23 hr23 => @slX9_innerv_23 d G1 P r23 hr23) _).use
    · skip
      exact hj14.use
noncomputable def f_X9_innerv {d : Nat} : List zV → zH d → zP d → Bool := zfn 6 (b_X9_innerv )
theorem m_X9_innerv {d : Nat} : zMet (d := d) X_X9_inner yX9_inner 3 (f_X9_innerv ) := zmet_mk (X := X_X9_inner) (by decide) rfl rfl (fun P => s_X9_innerv P)

noncomputable def bX9_kindv_19 {d : Nat} (P : zP d) : zK d := (xpI 4294967295 (xiret P))
set_option maxRecDepth 100000 in
set_option maxHeartbeats 4000000 in
theorem sbX9_kindv_19 {d : Nat} [zGh] (P : zP d) : zSim X_X9_kind 3 P 19 (bX9_kindv_19 P) := by
  unfold bX9_kindv_19
  refine sm_iconst (pc := 19) dX9_kind_19 zc_i_m1 ?_
  exact sm_ireturn (pc := 20) dX9_kind_20 rfl
noncomputable def bX9_kindv_105 {d : Nat} (P : zP d) (r60 : zK d) : zK d := (xist 3 (xincR 4 1 r60))
set_option maxRecDepth 100000 in
set_option maxHeartbeats 4000000 in
theorem sbX9_kindv_105 {d : Nat} [zGh] (P : zP d) (r60 : zK d) (hr60 : zSimJ 1 X_X9_kind 3 P 60 r60) : zSim X_X9_kind 3 P 105 (bX9_kindv_105 P r60) := by
  unfold bX9_kindv_105
  refine sm_istore_n (pc := 105) (n := 3) dX9_kind_105 rfl ?_
  refine sm_iincR (pc := 106) (n := 4) dX9_kind_106 zc_i_1 ?_
  refine sm_goto (pc := 109) (tgt := 60) dX9_kind_109 (by decide) ?_
  exact hr60.use
noncomputable def bX9_kindv_104 {d : Nat} (P : zP d) (j105 : zK d) : zK d := (xpI 0 j105)
set_option maxRecDepth 100000 in
set_option maxHeartbeats 4000000 in
theorem sbX9_kindv_104 {d : Nat} [zGh] (P : zP d) (j105 : zK d) (hj105 : zSimJ 1 X_X9_kind 3 P 105 j105) : zSim X_X9_kind 3 P 104 (bX9_kindv_104 P j105) := by
  unfold bX9_kindv_104
  refine sm_iconst (pc := 104) dX9_kind_104 zc_i_0 ?_
  exact hj105.use
noncomputable def bX9_kindv_100 {d : Nat} (P : zP d) (j105 : zK d) : zK d := (xpI 1 j105)
set_option maxRecDepth 100000 in
set_option maxHeartbeats 4000000 in
theorem sbX9_kindv_100 {d : Nat} [zGh] (P : zP d) (j105 : zK d) (hj105 : zSimJ 1 X_X9_kind 3 P 105 j105) : zSim X_X9_kind 3 P 100 (bX9_kindv_100 P j105) := by
  unfold bX9_kindv_100
  refine sm_iconst (pc := 100) dX9_kind_100 zc_i_1 ?_
  refine sm_goto (pc := 101) (tgt := 105) dX9_kind_101 (by decide) ?_
  exact hj105.use
noncomputable def lX9_kindv_60 {d : Nat} (P : zP d) (r60 : zK d) : zK d := (xild 4 (xaldV 0 (xgfI 25 2 (xcmpS tgeR rlGe rhS rlS rhLt (xild 3 (xcS 1 0 0 (zstr f_X9_one) (xiret P))) (xild 3 (xjn wkE (zsp [zI 4294967298] 1) (bX9_kindv_105 P r60) (fun j105 => (xjoin (bX9_kindv_104 P j105) (fun j104 => (xif0S teqR rlEq rhEq rlNe rhNe j104 (xaldV 0 (xgfR 25 8 (xild 4 (xalQ 1 (xjoin (bX9_kindv_100 P j105) (fun j100 => (xif0S teqR rlEq rhEq rlNe rhNe (xaldV 0 (xgfR 25 43 (xpI 11 (xild 1 (xbin zmulR (xild 4 (xbin zaddR (xlalB (xpL 0 (xlcmpR (xif0S teqR rlEq rhEq rlNe rhNe j100 j104))))))))))) j100)))))))))))))))))
set_option maxRecDepth 100000 in
set_option maxHeartbeats 4000000 in
theorem slX9_kindv_60 {d : Nat} [zGh] (P : zP d) (r60 : zK d) (hr60 : zSimJ 1 X_X9_kind 3 P 60 r60) : zSim X_X9_kind 3 P 60 (lX9_kindv_60 P r60) := by
  unfold lX9_kindv_60
  refine sm_iload (pc := 60) (n := 4) dX9_kind_60 ?_
  refine sm_aloadV_n (pc := 62) (n := 0) dX9_kind_62 rfl ?_
  refine gf_X9_153 (pc := 63) rfl dX9_kind_63 ?_
  refine sm_icmpS_ge (pc := 66) (tgt := 112) dX9_kind_66 (by decide) ?_ ?_
  · skip
    refine sm_iload_n (pc := 112) (n := 3) dX9_kind_112 rfl ?_
    refine sm_cS (pc := 113) (n := 1) (mc := 0) (ms := 0) (zMet_str m_X9_one) (cr_X9_187 (X := X_X9_kind) (fr := 3) (frc := 1) (pc := 113) (mc := 0) (ms := 0) rfl (by decide) dX9_kind_113) ?_
    exact sm_ireturn (pc := 116) dX9_kind_116 rfl
  · skip
    refine sm_iload_n (pc := 69) (n := 3) dX9_kind_69 rfl ?_
    refine sm_jn (pc := 70) (pc' := 105) (j := 1) wkE_ok (zsp_ok _ _) (fun G0 hG0 => @sbX9_kindv_105 d G0 P r60 (hr60.mv hG0 (by decide))) (fun j105 hj105 => ?_)
    refine sm_joinJ (pc := 70) (pc' := 104) (j := 1) (fun G0 hG0 => @sbX9_kindv_104 d G0 P j105 (hj105.mv hG0 (by decide))) (fun j104 hj104 => ?_)
    refine sm_ifS_eq (pc := 70) (tgt := 104) dX9_kind_70 (by decide) ?_ ?_
    · skip
      exact hj104.use
    · skip
      refine sm_aloadV_n (pc := 73) (n := 0) dX9_kind_73 rfl ?_
      refine gf_X9_26 (pc := 74) rfl dX9_kind_74 ?_
      refine sm_iload (pc := 77) (n := 4) dX9_kind_77 ?_
      refine sm_baloadQ (pc := 79) dX9_kind_79 ?_
      refine sm_joinJ (pc := 80) (pc' := 100) (j := 1) (fun G0 hG0 => @sbX9_kindv_100 d G0 P j105 (hj105.mv hG0 (by decide))) (fun j100 hj100 => ?_)
      refine sm_ifS_ne (pc := 80) (tgt := 100) dX9_kind_80 (by decide) ?_ ?_
      · skip
        exact hj100.use
      · skip
        refine sm_aloadV_n (pc := 83) (n := 0) dX9_kind_83 rfl ?_
        refine gf_X9_115 (pc := 84) rfl dX9_kind_84 ?_
        refine sm_bipush (pc := 87) dX9_kind_87 zc_b_11 ?_
        refine sm_iload_n (pc := 89) (n := 1) dX9_kind_89 rfl ?_
        refine sm_imulR (pc := 90) dX9_kind_90 ?_
        refine sm_iload (pc := 91) (n := 4) dX9_kind_91 ?_
        refine sm_iaddR (pc := 93) dX9_kind_93 ?_
        refine sm_laloadB (pc := 94) dX9_kind_94 ?_
        refine sm_lconst (pc := 95) dX9_kind_95 zc_l_0 ?_
        refine sm_lcmpR (pc := 96) dX9_kind_96 ?_
        refine sm_ifS_ne (pc := 97) (tgt := 104) dX9_kind_97 (by decide) ?_ ?_
        · skip
          exact hj104.use
        · skip
          exact hj100.use
noncomputable def bX9_kindv_48 {d : Nat} (P : zP d) : zK d := (xcV 25 4 0 0 (zstr f_X9_areWholev) (xcS 1 0 0 (zstr f_X9_one) (xiret P)))
set_option maxRecDepth 100000 in
set_option maxHeartbeats 4000000 in
theorem sbX9_kindv_48 {d : Nat} [zGh] (P : zP d) : zSim X_X9_kind 3 P 48 (bX9_kindv_48 P) := by
  unfold bX9_kindv_48
  refine sm_cV (pc := 48) (ci := 9) (n := 4) (mc := 0) (ms := 0) rfl (zMet_str m_X9_areWholev) (cr_X9_343 (X := X_X9_kind) (fr := 3) (frc := 2) (pc := 48) (mc := 0) (ms := 0) rfl (by decide) dX9_kind_48) ?_
  refine sm_cS (pc := 51) (n := 1) (mc := 0) (ms := 0) (zMet_str m_X9_one) (cr_X9_187 (X := X_X9_kind) (fr := 3) (frc := 1) (pc := 51) (mc := 0) (ms := 0) rfl (by decide) dX9_kind_51) ?_
  exact sm_ireturn (pc := 54) dX9_kind_54 rfl
noncomputable def bX9_kindv_37 {d : Nat} (P : zP d) : zK d := (xild 2 (xpI 2 (xbinN zremR (xjoin (bX9_kindv_48 P) (fun j48 => (xif0S teqR rlEq rhEq rlNe rhNe (xpI 1 j48) (xpI 0 j48)))))))
set_option maxRecDepth 100000 in
set_option maxHeartbeats 4000000 in
theorem sbX9_kindv_37 {d : Nat} [zGh] (P : zP d) : zSim X_X9_kind 3 P 37 (bX9_kindv_37 P) := by
  unfold bX9_kindv_37
  refine sm_iload_n (pc := 37) (n := 2) dX9_kind_37 rfl ?_
  refine sm_iconst (pc := 38) dX9_kind_38 zc_i_2 ?_
  refine sm_iremR (pc := 39) dX9_kind_39 ?_
  refine sm_joinJ (pc := 40) (pc' := 48) (j := 1) (fun G0 hG0 => @sbX9_kindv_48 d G0 P) (fun j48 hj48 => ?_)
  refine sm_ifS_ne (pc := 40) (tgt := 47) dX9_kind_40 (by decide) ?_ ?_
  · skip
    refine sm_iconst (pc := 47) dX9_kind_47 zc_i_0 ?_
    exact hj48.use
  · skip
    refine sm_iconst (pc := 43) dX9_kind_43 zc_i_1 ?_
    refine sm_goto (pc := 44) (tgt := 48) dX9_kind_44 (by decide) ?_
    exact hj48.use
noncomputable def b_X9_kindv {d : Nat} (P : zP d) : zK d := (xild 1 (xcS 1 0 0 (zstr f_X9_isSlota) (xjoin (bX9_kindv_19 P) (fun j19 => (xif0S teqR rlEq rhEq rlNe rhNe j19 (xild 2 (xi2lR (xpL 0 (xpL 4 (xcS 3 0 0 (zstr f_X9_isIna) (xif0S teqR rlEq rhEq rlNe rhNe j19 (xild 2 (xif0S tleR rlS rhLe rlGt rhS (xpI 1 (xist 3 (xpI 0 (xist 4 (xloop (fun r60 => (lX9_kindv_60 P r60)) 100000))))) (xaldV 0 (xild 1 (xild 2 (xpI 2 (xjoin (bX9_kindv_37 P) (fun j37 => (xcmpS tleR rlS rhLe rlGt rhS (xpI 0 j37) (xpI 1 j37)))))))))))))))))))))
set_option maxRecDepth 100000 in
set_option maxHeartbeats 4000000 in
theorem s_X9_kindv {d : Nat} [zGh] (P : zP d) : zSim X_X9_kind 3 P 0 (b_X9_kindv P) := by
  unfold b_X9_kindv
  refine sm_iload_n (pc := 0) (n := 1) dX9_kind_0 rfl ?_
  refine sm_cS (pc := 1) (n := 1) (mc := 0) (ms := 0) (zMet_str m_X9_isSlota) (cr_X9_319 (X := X_X9_kind) (fr := 3) (frc := 2) (pc := 1) (mc := 0) (ms := 0) rfl (by decide) dX9_kind_1) ?_
  refine sm_joinJ (pc := 4) (pc' := 19) (j := 1) (fun G0 hG0 => @sbX9_kindv_19 d G0 P) (fun j19 hj19 => ?_)
  refine sm_ifS_eq (pc := 4) (tgt := 19) dX9_kind_4 (by decide) ?_ ?_
  · skip
    exact hj19.use
  · skip
    refine sm_iload_n (pc := 7) (n := 2) dX9_kind_7 rfl ?_
    refine sm_i2lR (pc := 8) dX9_kind_8 ?_
    refine sm_lconst (pc := 9) dX9_kind_9 zc_l_0 ?_
    refine sm_ldc2 (pc := 10) dX9_kind_10 wd_1337 zc_cl_4 ?_
    refine sm_cS (pc := 13) (n := 3) (mc := 0) (ms := 0) (zMet_str m_X9_isIna) (cr_X9_283 (X := X_X9_kind) (fr := 3) (frc := 1) (pc := 13) (mc := 0) (ms := 0) rfl (by decide) dX9_kind_13) ?_
    refine sm_ifS_ne (pc := 16) (tgt := 21) dX9_kind_16 (by decide) ?_ ?_
    · skip
      refine sm_iload_n (pc := 21) (n := 2) dX9_kind_21 rfl ?_
      refine sm_ifS_le (pc := 22) (tgt := 55) dX9_kind_22 (by decide) ?_ ?_
      · skip
        refine sm_iconst (pc := 55) dX9_kind_55 zc_i_1 ?_
        refine sm_istore_n (pc := 56) (n := 3) dX9_kind_56 rfl ?_
        refine sm_iconst (pc := 57) dX9_kind_57 zc_i_0 ?_
        refine sm_istore (pc := 58) (n := 4) dX9_kind_58 ?_
        exact (sm_loopJ (j := 1) (fun G1 hG1 r60 hr60 => @slX9_kindv_60 d G1 P r60 hr60) _).use
      · skip
        refine sm_aloadV_n (pc := 25) (n := 0) dX9_kind_25 rfl ?_
        refine sm_iload_n (pc := 26) (n := 1) dX9_kind_26 rfl ?_
        refine sm_iload_n (pc := 27) (n := 2) dX9_kind_27 rfl ?_
        refine sm_iconst (pc := 28) dX9_kind_28 zc_i_2 ?_
        refine sm_joinJ (pc := 29) (pc' := 37) (j := 1) (fun G0 hG0 => @sbX9_kindv_37 d G0 P) (fun j37 hj37 => ?_)
        refine sm_icmpS_le (pc := 29) (tgt := 36) dX9_kind_29 (by decide) ?_ ?_
        · skip
          refine sm_iconst (pc := 36) dX9_kind_36 zc_i_0 ?_
          exact hj37.use
        · skip
          refine sm_iconst (pc := 32) dX9_kind_32 zc_i_1 ?_
          refine sm_goto (pc := 33) (tgt := 37) dX9_kind_33 (by decide) ?_
          exact hj37.use
    · skip
      exact hj19.use
noncomputable def f_X9_kindv {d : Nat} : List zV → zH d → zP d → Bool := zfn 5 (b_X9_kindv )
theorem m_X9_kindv {d : Nat} : zMet (d := d) X_X9_kind yX9_kind 3 (f_X9_kindv ) := zmet_mk (X := X_X9_kind) (by decide) rfl rfl (fun P => s_X9_kindv P)

noncomputable def bX9_cutv_40 {d : Nat} (P : zP d) : zK d := (xpI 4294967295 (xiret P))
set_option maxRecDepth 100000 in
set_option maxHeartbeats 4000000 in
theorem sbX9_cutv_40 {d : Nat} [zGh] (P : zP d) : zSim X_X9_cut 3 P 40 (bX9_cutv_40 P) := by
  unfold bX9_cutv_40
  refine sm_iconst (pc := 40) dX9_cut_40 zc_i_m1 ?_
  exact sm_ireturn (pc := 41) dX9_cut_41 rfl
noncomputable def lX9_cutv_163 {d : Nat} (P : zP d) (r163 : zK d) : zK d := (xild 4 (xaldV 0 (xgfI 25 2 (xcmpS tgeR rlGe rhS rlS rhLt (xpI 0 (xiret P)) (xaldV 0 (xgfR 25 43 (xpI 11 (xild 3 (xbin zmulR (xild 4 (xbin zaddR (xaldV 0 (xgfR 25 44 (xild 4 (xlalB (xlasB (xincR 4 1 r163)))))))))))))))))
set_option maxRecDepth 100000 in
set_option maxHeartbeats 4000000 in
theorem slX9_cutv_163 {d : Nat} [zGh] (P : zP d) (r163 : zK d) (hr163 : zSimJ 1 X_X9_cut 3 P 163 r163) : zSim X_X9_cut 3 P 163 (lX9_cutv_163 P r163) := by
  unfold lX9_cutv_163
  refine sm_iload (pc := 163) (n := 4) dX9_cut_163 ?_
  refine sm_aloadV_n (pc := 165) (n := 0) dX9_cut_165 rfl ?_
  refine gf_X9_153 (pc := 166) rfl dX9_cut_166 ?_
  refine sm_icmpS_ge (pc := 169) (tgt := 197) dX9_cut_169 (by decide) ?_ ?_
  · skip
    refine sm_iconst (pc := 197) dX9_cut_197 zc_i_0 ?_
    exact sm_ireturn (pc := 198) dX9_cut_198 rfl
  · skip
    refine sm_aloadV_n (pc := 172) (n := 0) dX9_cut_172 rfl ?_
    refine gf_X9_115 (pc := 173) rfl dX9_cut_173 ?_
    refine sm_bipush (pc := 176) dX9_cut_176 zc_b_11 ?_
    refine sm_iload_n (pc := 178) (n := 3) dX9_cut_178 rfl ?_
    refine sm_imulR (pc := 179) dX9_cut_179 ?_
    refine sm_iload (pc := 180) (n := 4) dX9_cut_180 ?_
    refine sm_iaddR (pc := 182) dX9_cut_182 ?_
    refine sm_aloadV_n (pc := 183) (n := 0) dX9_cut_183 rfl ?_
    refine gf_X9_118 (pc := 184) rfl dX9_cut_184 ?_
    refine sm_iload (pc := 187) (n := 4) dX9_cut_187 ?_
    refine sm_laloadB (pc := 189) dX9_cut_189 ?_
    refine sm_lastoreB (pc := 190) dX9_cut_190 ?_
    refine sm_iincR (pc := 191) (n := 4) dX9_cut_191 zc_i_1 ?_
    refine sm_goto (pc := 194) (tgt := 163) dX9_cut_194 (by decide) ?_
    exact hr163.use
noncomputable def bX9_cutv_154 {d : Nat} (P : zP d) (r71 : zK d) : zK d := (xincR 4 1 r71)
set_option maxRecDepth 100000 in
set_option maxHeartbeats 4000000 in
theorem sbX9_cutv_154 {d : Nat} [zGh] (P : zP d) (r71 : zK d) (hr71 : zSimJ 1 X_X9_cut 3 P 71 r71) : zSim X_X9_cut 3 P 154 (bX9_cutv_154 P r71) := by
  unfold bX9_cutv_154
  refine sm_iincR (pc := 154) (n := 4) dX9_cut_154 zc_i_1 ?_
  refine sm_goto (pc := 157) (tgt := 71) dX9_cut_157 (by decide) ?_
  exact hr71.use
noncomputable def lX9_cutv_112 {d : Nat} (P : zP d) (j154 : zK d) (r112 : zK d) : zK d := (xild 7 (xaldV 0 (xgfI 25 2 (xcmpS tgeR rlGe rhS rlS rhLt j154 (xaldV 0 (xgfR 25 44 (xild 7 (xdup2V (xlalB (xlld 5 (xaldV 0 (xgfR 25 14 (xpI 11 (xild 4 (xbin zmulR (xild 7 (xbin zaddR (xalQ 0 (xi2lR (xbinj zmulj (xbinj zaddj (xlas (xincR 7 1 r112)))))))))))))))))))))))
set_option maxRecDepth 100000 in
set_option maxHeartbeats 4000000 in
theorem slX9_cutv_112 {d : Nat} [zGh] (P : zP d) (j154 : zK d) (r112 : zK d) (hj154 : zSimJ 1 X_X9_cut 3 P 154 j154) (hr112 : zSimJ 1 X_X9_cut 3 P 112 r112) : zSim X_X9_cut 3 P 112 (lX9_cutv_112 P j154 r112) := by
  unfold lX9_cutv_112
  refine sm_iload (pc := 112) (n := 7) dX9_cut_112 ?_
  refine sm_aloadV_n (pc := 114) (n := 0) dX9_cut_114 rfl ?_
  refine gf_X9_153 (pc := 115) rfl dX9_cut_115 ?_
  refine sm_icmpS_ge (pc := 118) (tgt := 154) dX9_cut_118 (by decide) ?_ ?_
  · skip
    exact hj154.use
  · skip
    refine sm_aloadV_n (pc := 121) (n := 0) dX9_cut_121 rfl ?_
    refine gf_X9_118 (pc := 122) rfl dX9_cut_122 ?_
    refine sm_iload (pc := 125) (n := 7) dX9_cut_125 ?_
    refine sm_dup2V (pc := 127) dX9_cut_127 ?_
    refine sm_laloadB (pc := 128) dX9_cut_128 ?_
    refine sm_lload (pc := 129) (n := 5) dX9_cut_129 ?_
    refine sm_aloadV_n (pc := 131) (n := 0) dX9_cut_131 rfl ?_
    refine gf_X9_38 (pc := 132) rfl dX9_cut_132 ?_
    refine sm_bipush (pc := 135) dX9_cut_135 zc_b_11 ?_
    refine sm_iload (pc := 137) (n := 4) dX9_cut_137 ?_
    refine sm_imulR (pc := 139) dX9_cut_139 ?_
    refine sm_iload (pc := 140) (n := 7) dX9_cut_140 ?_
    refine sm_iaddR (pc := 142) dX9_cut_142 ?_
    refine sm_ialoadQ (pc := 143) dX9_cut_143 ?_
    refine sm_i2lR (pc := 144) dX9_cut_144 ?_
    refine sm_lmul (pc := 145) dX9_cut_145 ?_
    refine sm_ladd (pc := 146) dX9_cut_146 ?_
    refine sm_lastore (pc := 147) dX9_cut_147 ?_
    refine sm_iincR (pc := 148) (n := 7) dX9_cut_148 zc_i_1 ?_
    refine sm_goto (pc := 151) (tgt := 112) dX9_cut_151 (by decide) ?_
    exact hr112.use
noncomputable def lX9_cutv_71 {d : Nat} (P : zP d) (r71 : zK d) : zK d := (xild 4 (xaldV 0 (xgfI 25 2 (xcmpS tgeR rlGe rhS rlS rhLt (xpI 0 (xist 4 (xloop (fun r163 => (lX9_cutv_163 P r163)) 100000))) (xaldV 0 (xgfR 25 17 (xild 4 (xalQ 0 (xild 2 (xjoin (bX9_cutv_154 P r71) (fun j154 => (xcmpS teqR rlEq rhEq rlNe rhNe (xaldV 0 (xild 1 (xild 4 (xcV 25 3 0 0 (zstr f_X9_ordinarySumv) (xaldV 0 (xgfI 25 12 (xi2lR (xbinjN zdivj (xlst 5 (xpI 0 (xist 7 (xloop (fun r112 => (lX9_cutv_112 P j154 r112)) 100000)))))))))))) j154))))))))))))
set_option maxRecDepth 100000 in
set_option maxHeartbeats 4000000 in
theorem slX9_cutv_71 {d : Nat} [zGh] (P : zP d) (r71 : zK d) (hr71 : zSimJ 1 X_X9_cut 3 P 71 r71) : zSim X_X9_cut 3 P 71 (lX9_cutv_71 P r71) := by
  unfold lX9_cutv_71
  refine sm_iload (pc := 71) (n := 4) dX9_cut_71 ?_
  refine sm_aloadV_n (pc := 73) (n := 0) dX9_cut_73 rfl ?_
  refine gf_X9_153 (pc := 74) rfl dX9_cut_74 ?_
  refine sm_icmpS_ge (pc := 77) (tgt := 160) dX9_cut_77 (by decide) ?_ ?_
  · skip
    refine sm_iconst (pc := 160) dX9_cut_160 zc_i_0 ?_
    refine sm_istore (pc := 161) (n := 4) dX9_cut_161 ?_
    exact (sm_loopJ (j := 1) (fun G1 hG1 r163 hr163 => @slX9_cutv_163 d G1 P r163 hr163) _).use
  · skip
    refine sm_aloadV_n (pc := 80) (n := 0) dX9_cut_80 rfl ?_
    refine gf_X9_47 (pc := 81) rfl dX9_cut_81 ?_
    refine sm_iload (pc := 84) (n := 4) dX9_cut_84 ?_
    refine sm_ialoadQ (pc := 86) dX9_cut_86 ?_
    refine sm_iload_n (pc := 87) (n := 2) dX9_cut_87 rfl ?_
    refine sm_joinJ (pc := 88) (pc' := 154) (j := 1) (fun G0 hG0 => @sbX9_cutv_154 d G0 P r71 (hr71.mv hG0 (by decide))) (fun j154 hj154 => ?_)
    refine sm_icmpS_eq (pc := 88) (tgt := 94) dX9_cut_88 (by decide) ?_ ?_
    · skip
      refine sm_aloadV_n (pc := 94) (n := 0) dX9_cut_94 rfl ?_
      refine sm_iload_n (pc := 95) (n := 1) dX9_cut_95 rfl ?_
      refine sm_iload (pc := 96) (n := 4) dX9_cut_96 ?_
      refine sm_cV (pc := 98) (ci := 9) (n := 3) (mc := 0) (ms := 0) rfl (zMet_str m_X9_ordinarySumv) (cr_X9_328 (X := X_X9_cut) (fr := 3) (frc := 1) (pc := 98) (mc := 0) (ms := 0) rfl (by decide) dX9_cut_98) ?_
      refine sm_aloadV_n (pc := 101) (n := 0) dX9_cut_101 rfl ?_
      refine gf_X9_166 (pc := 102) rfl dX9_cut_102 ?_
      refine sm_i2lR (pc := 105) dX9_cut_105 ?_
      refine sm_ldiv (pc := 106) dX9_cut_106 ?_
      refine sm_lstore (pc := 107) (n := 5) dX9_cut_107 ?_
      refine sm_iconst (pc := 109) dX9_cut_109 zc_i_0 ?_
      refine sm_istore (pc := 110) (n := 7) dX9_cut_110 ?_
      exact (sm_loopJ (j := 1) (fun G1 hG1 r112 hr112 => @slX9_cutv_112 d G1 P j154 r112 (hj154.mv hG1 (by decide)) hr112) _).use
    · skip
      refine sm_goto (pc := 91) (tgt := 154) dX9_cut_91 (by decide) ?_
      exact hj154.use
noncomputable def lX9_cutv_45 {d : Nat} (P : zP d) (r45 : zK d) : zK d := (xild 4 (xaldV 0 (xgfI 25 2 (xcmpS tgeR rlGe rhS rlS rhLt (xpI 0 (xist 4 (xloop (fun r71 => (lX9_cutv_71 P r71)) 100000))) (xaldV 0 (xgfR 25 44 (xild 4 (xpL 0 (xlas (xincR 4 1 r45))))))))))
set_option maxRecDepth 100000 in
set_option maxHeartbeats 4000000 in
theorem slX9_cutv_45 {d : Nat} [zGh] (P : zP d) (r45 : zK d) (hr45 : zSimJ 1 X_X9_cut 3 P 45 r45) : zSim X_X9_cut 3 P 45 (lX9_cutv_45 P r45) := by
  unfold lX9_cutv_45
  refine sm_iload (pc := 45) (n := 4) dX9_cut_45 ?_
  refine sm_aloadV_n (pc := 47) (n := 0) dX9_cut_47 rfl ?_
  refine gf_X9_153 (pc := 48) rfl dX9_cut_48 ?_
  refine sm_icmpS_ge (pc := 51) (tgt := 68) dX9_cut_51 (by decide) ?_ ?_
  · skip
    refine sm_iconst (pc := 68) dX9_cut_68 zc_i_0 ?_
    refine sm_istore (pc := 69) (n := 4) dX9_cut_69 ?_
    exact (sm_loopJ (j := 1) (fun G1 hG1 r71 hr71 => @slX9_cutv_71 d G1 P r71 hr71) _).use
  · skip
    refine sm_aloadV_n (pc := 54) (n := 0) dX9_cut_54 rfl ?_
    refine gf_X9_118 (pc := 55) rfl dX9_cut_55 ?_
    refine sm_iload (pc := 58) (n := 4) dX9_cut_58 ?_
    refine sm_lconst (pc := 60) dX9_cut_60 zc_l_0 ?_
    refine sm_lastore (pc := 61) dX9_cut_61 ?_
    refine sm_iincR (pc := 62) (n := 4) dX9_cut_62 zc_i_1 ?_
    refine sm_goto (pc := 65) (tgt := 45) dX9_cut_65 (by decide) ?_
    exact hr45.use
noncomputable def b_X9_cutv {d : Nat} (P : zP d) : zK d := (xild 1 (xcS 1 0 0 (zstr f_X9_isSlota) (xjoin (bX9_cutv_40 P) (fun j40 => (xif0S teqR rlEq rhEq rlNe rhNe j40 (xild 3 (xcS 1 0 0 (zstr f_X9_isSlota) (xif0S teqR rlEq rhEq rlNe rhNe j40 (xild 2 (xi2lR (xpL 0 (xaldV 0 (xgfI 25 18 (xpI 1 (xbin zsubR (xi2lR (xcS 3 0 0 (zstr f_X9_isIna) (xif0S teqR rlEq rhEq rlNe rhNe j40 (xaldV 0 (xild 1 (xpI 0 (xpI 0 (xcV 25 4 0 0 (zstr f_X9_areWholev) (xif0S teqR rlEq rhEq rlNe rhNe j40 (xpI 0 (xist 4 (xloop (fun r45 => (lX9_cutv_45 P r45)) 100000)))))))))))))))))))))))))))
set_option maxRecDepth 100000 in
set_option maxHeartbeats 4000000 in
theorem s_X9_cutv {d : Nat} [zGh] (P : zP d) : zSim X_X9_cut 3 P 0 (b_X9_cutv P) := by
  unfold b_X9_cutv
  refine sm_iload_n (pc := 0) (n := 1) dX9_cut_0 rfl ?_
  refine sm_cS (pc := 1) (n := 1) (mc := 0) (ms := 0) (zMet_str m_X9_isSlota) (cr_X9_319 (X := X_X9_cut) (fr := 3) (frc := 2) (pc := 1) (mc := 0) (ms := 0) rfl (by decide) dX9_cut_1) ?_
  refine sm_joinJ (pc := 4) (pc' := 40) (j := 1) (fun G0 hG0 => @sbX9_cutv_40 d G0 P) (fun j40 hj40 => ?_)
  refine sm_ifS_eq (pc := 4) (tgt := 40) dX9_cut_4 (by decide) ?_ ?_
  · skip
    exact hj40.use
  · skip
    refine sm_iload_n (pc := 7) (n := 3) dX9_cut_7 rfl ?_
    refine sm_cS (pc := 8) (n := 1) (mc := 0) (ms := 0) (zMet_str m_X9_isSlota) (cr_X9_319 (X := X_X9_cut) (fr := 3) (frc := 2) (pc := 8) (mc := 0) (ms := 0) rfl (by decide) dX9_cut_8) ?_
    refine sm_ifS_eq (pc := 11) (tgt := 40) dX9_cut_11 (by decide) ?_ ?_
    · skip
      exact hj40.use
    · skip
      refine sm_iload_n (pc := 14) (n := 2) dX9_cut_14 rfl ?_
      refine sm_i2lR (pc := 15) dX9_cut_15 ?_
      refine sm_lconst (pc := 16) dX9_cut_16 zc_l_0 ?_
      refine sm_aloadV_n (pc := 17) (n := 0) dX9_cut_17 rfl ?_
      refine gf_X9_199 (pc := 18) rfl dX9_cut_18 ?_
      refine sm_iconst (pc := 21) dX9_cut_21 zc_i_1 ?_
      refine sm_isubR (pc := 22) dX9_cut_22 ?_
      refine sm_i2lR (pc := 23) dX9_cut_23 ?_
      refine sm_cS (pc := 24) (n := 3) (mc := 0) (ms := 0) (zMet_str m_X9_isIna) (cr_X9_283 (X := X_X9_cut) (fr := 3) (frc := 1) (pc := 24) (mc := 0) (ms := 0) rfl (by decide) dX9_cut_24) ?_
      refine sm_ifS_eq (pc := 27) (tgt := 40) dX9_cut_27 (by decide) ?_ ?_
      · skip
        exact hj40.use
      · skip
        refine sm_aloadV_n (pc := 30) (n := 0) dX9_cut_30 rfl ?_
        refine sm_iload_n (pc := 31) (n := 1) dX9_cut_31 rfl ?_
        refine sm_iconst (pc := 32) dX9_cut_32 zc_i_0 ?_
        refine sm_iconst (pc := 33) dX9_cut_33 zc_i_0 ?_
        refine sm_cV (pc := 34) (ci := 9) (n := 4) (mc := 0) (ms := 0) rfl (zMet_str m_X9_areWholev) (cr_X9_343 (X := X_X9_cut) (fr := 3) (frc := 2) (pc := 34) (mc := 0) (ms := 0) rfl (by decide) dX9_cut_34) ?_
        refine sm_ifS_ne (pc := 37) (tgt := 42) dX9_cut_37 (by decide) ?_ ?_
        · skip
          refine sm_iconst (pc := 42) dX9_cut_42 zc_i_0 ?_
          refine sm_istore (pc := 43) (n := 4) dX9_cut_43 ?_
          exact (sm_loopJ (j := 1) (fun G1 hG1 r45 hr45 => @slX9_cutv_45 d G1 P r45 hr45) _).use
        · skip
          exact hj40.use
noncomputable def f_X9_cutv {d : Nat} : List zV → zH d → zP d → Bool := zfn 8 (b_X9_cutv )
theorem m_X9_cutv {d : Nat} : zMet (d := d) X_X9_cut yX9_cut 3 (f_X9_cutv ) := zmet_mk (X := X_X9_cut) (by decide) rfl rfl (fun P => s_X9_cutv P)

noncomputable def bX9_lookv_187 {d : Nat} (P : zP d) : zK d := (xpI 4294967295 (xiret P))
set_option maxRecDepth 100000 in
set_option maxHeartbeats 4000000 in
theorem sbX9_lookv_187 {d : Nat} [zGh] (P : zP d) : zSim X_X9_look 2 P 187 (bX9_lookv_187 P) := by
  unfold bX9_lookv_187
  refine sm_iconst (pc := 187) dX9_look_187 zc_i_m1 ?_
  exact sm_ireturn (pc := 188) dX9_look_188 rfl
noncomputable def bX9_lookv_148 {d : Nat} (P : zP d) : zK d := (xaldV 0 (xgfI 25 0 (xiret P)))
set_option maxRecDepth 100000 in
set_option maxHeartbeats 4000000 in
theorem sbX9_lookv_148 {d : Nat} [zGh] (P : zP d) : zSim X_X9_look 2 P 148 (bX9_lookv_148 P) := by
  unfold bX9_lookv_148
  refine sm_aloadV_n (pc := 148) (n := 0) dX9_look_148 rfl ?_
  refine gf_X9_169 (pc := 149) rfl dX9_look_149 ?_
  exact sm_ireturn (pc := 152) dX9_look_152 rfl
noncomputable def bX9_lookv_153 {d : Nat} (P : zP d) : zK d := (xaldV 0 (xgfI 25 1 (xiret P)))
set_option maxRecDepth 100000 in
set_option maxHeartbeats 4000000 in
theorem sbX9_lookv_153 {d : Nat} [zGh] (P : zP d) : zSim X_X9_look 2 P 153 (bX9_lookv_153 P) := by
  unfold bX9_lookv_153
  refine sm_aloadV_n (pc := 153) (n := 0) dX9_look_153 rfl ?_
  refine gf_X9_184 (pc := 154) rfl dX9_look_154 ?_
  exact sm_ireturn (pc := 157) dX9_look_157 rfl
noncomputable def bX9_lookv_158 {d : Nat} (P : zP d) : zK d := (xaldV 0 (xgfI 25 2 (xiret P)))
set_option maxRecDepth 100000 in
set_option maxHeartbeats 4000000 in
theorem sbX9_lookv_158 {d : Nat} [zGh] (P : zP d) : zSim X_X9_look 2 P 158 (bX9_lookv_158 P) := by
  unfold bX9_lookv_158
  refine sm_aloadV_n (pc := 158) (n := 0) dX9_look_158 rfl ?_
  refine gf_X9_153 (pc := 159) rfl dX9_look_159 ?_
  exact sm_ireturn (pc := 162) dX9_look_162 rfl
noncomputable def bX9_lookv_163 {d : Nat} (P : zP d) : zK d := (xaldV 0 (xgfI 25 11 (xiret P)))
set_option maxRecDepth 100000 in
set_option maxHeartbeats 4000000 in
theorem sbX9_lookv_163 {d : Nat} [zGh] (P : zP d) : zSim X_X9_look 2 P 163 (bX9_lookv_163 P) := by
  unfold bX9_lookv_163
  refine sm_aloadV_n (pc := 163) (n := 0) dX9_look_163 rfl ?_
  refine gf_X9_172 (pc := 164) rfl dX9_look_164 ?_
  exact sm_ireturn (pc := 167) dX9_look_167 rfl
noncomputable def bX9_lookv_168 {d : Nat} (P : zP d) : zK d := (xaldV 0 (xgfI 25 18 (xiret P)))
set_option maxRecDepth 100000 in
set_option maxHeartbeats 4000000 in
theorem sbX9_lookv_168 {d : Nat} [zGh] (P : zP d) : zSim X_X9_look 2 P 168 (bX9_lookv_168 P) := by
  unfold bX9_lookv_168
  refine sm_aloadV_n (pc := 168) (n := 0) dX9_look_168 rfl ?_
  refine gf_X9_199 (pc := 169) rfl dX9_look_169 ?_
  exact sm_ireturn (pc := 172) dX9_look_172 rfl
noncomputable def bX9_lookv_173 {d : Nat} (P : zP d) : zK d := (xaldV 0 (xgfI 25 12 (xiret P)))
set_option maxRecDepth 100000 in
set_option maxHeartbeats 4000000 in
theorem sbX9_lookv_173 {d : Nat} [zGh] (P : zP d) : zSim X_X9_look 2 P 173 (bX9_lookv_173 P) := by
  unfold bX9_lookv_173
  refine sm_aloadV_n (pc := 173) (n := 0) dX9_look_173 rfl ?_
  refine gf_X9_166 (pc := 174) rfl dX9_look_174 ?_
  exact sm_ireturn (pc := 177) dX9_look_177 rfl
noncomputable def bX9_lookv_178 {d : Nat} (P : zP d) : zK d := (xaldV 0 (xgfI 25 46 (xiret P)))
set_option maxRecDepth 100000 in
set_option maxHeartbeats 4000000 in
theorem sbX9_lookv_178 {d : Nat} [zGh] (P : zP d) : zSim X_X9_look 2 P 178 (bX9_lookv_178 P) := by
  unfold bX9_lookv_178
  refine sm_aloadV_n (pc := 178) (n := 0) dX9_look_178 rfl ?_
  refine gf_X9_347 (pc := 179) rfl dX9_look_179 ?_
  exact sm_ireturn (pc := 182) dX9_look_182 rfl
noncomputable def bX9_lookv_183 {d : Nat} (P : zP d) : zK d := (xild 2 (xiret P))
set_option maxRecDepth 100000 in
set_option maxHeartbeats 4000000 in
theorem sbX9_lookv_183 {d : Nat} [zGh] (P : zP d) : zSim X_X9_look 2 P 183 (bX9_lookv_183 P) := by
  unfold bX9_lookv_183
  refine sm_iload_n (pc := 183) (n := 2) dX9_look_183 rfl ?_
  exact sm_ireturn (pc := 184) dX9_look_184 rfl
noncomputable def bX9_lookv_185 {d : Nat} (P : zP d) : zK d := (xild 3 (xiret P))
set_option maxRecDepth 100000 in
set_option maxHeartbeats 4000000 in
theorem sbX9_lookv_185 {d : Nat} [zGh] (P : zP d) : zSim X_X9_look 2 P 185 (bX9_lookv_185 P) := by
  unfold bX9_lookv_185
  refine sm_iload_n (pc := 185) (n := 3) dX9_look_185 rfl ?_
  exact sm_ireturn (pc := 186) dX9_look_186 rfl
noncomputable def bX9_lookv_87 {d : Nat} (P : zP d) (r57 : zK d) : zK d := (xcS 1 0 0 (zstr f_X9_one) (xbin zaddR (xist 3 (xincR 4 1 r57))))
set_option maxRecDepth 100000 in
set_option maxHeartbeats 4000000 in
theorem sbX9_lookv_87 {d : Nat} [zGh] (P : zP d) (r57 : zK d) (hr57 : zSimJ 1 X_X9_look 2 P 57 r57) : zSim X_X9_look 2 P 87 (bX9_lookv_87 P r57) := by
  unfold bX9_lookv_87
  refine sm_cS (pc := 87) (n := 1) (mc := 0) (ms := 0) (zMet_str m_X9_one) (cr_X9_187 (X := X_X9_look) (fr := 2) (frc := 1) (pc := 87) (mc := 0) (ms := 0) rfl (by decide) dX9_look_87) ?_
  refine sm_iaddR (pc := 90) dX9_look_90 ?_
  refine sm_istore_n (pc := 91) (n := 3) dX9_look_91 rfl ?_
  refine sm_iincR (pc := 92) (n := 4) dX9_look_92 zc_i_1 ?_
  refine sm_goto (pc := 95) (tgt := 57) dX9_look_95 (by decide) ?_
  exact hr57.use
noncomputable def lX9_lookv_57 {d : Nat} (P : zP d) (r57 : zK d) : zK d := (xild 4 (xaldV 0 (xgfI 25 18 (xcmpS tgeR rlGe rhS rlS rhLt (xild 1 (xtswR 8 [(bX9_lookv_148 P), (bX9_lookv_153 P), (bX9_lookv_158 P), (bX9_lookv_163 P), (bX9_lookv_168 P), (bX9_lookv_173 P), (bX9_lookv_178 P), (bX9_lookv_183 P), (bX9_lookv_185 P)] (bX9_lookv_187 P))) (xild 3 (xaldV 0 (xgfR 25 15 (xaldV 0 (xgfR 25 19 (xild 4 (xalQ 0 (xalQ 0 (xjoin (bX9_lookv_87 P r57) (fun j87 => (xif0S teqR rlEq rhEq rlNe rhNe (xpI 1 j87) (xpI 0 j87))))))))))))))))
set_option maxRecDepth 100000 in
set_option maxHeartbeats 4000000 in
theorem slX9_lookv_57 {d : Nat} [zGh] (P : zP d) (r57 : zK d) (hr57 : zSimJ 1 X_X9_look 2 P 57 r57) : zSim X_X9_look 2 P 57 (lX9_lookv_57 P r57) := by
  unfold lX9_lookv_57
  refine sm_iload (pc := 57) (n := 4) dX9_look_57 ?_
  refine sm_aloadV_n (pc := 59) (n := 0) dX9_look_59 rfl ?_
  refine gf_X9_199 (pc := 60) rfl dX9_look_60 ?_
  refine sm_icmpS_ge (pc := 63) (tgt := 98) dX9_look_63 (by decide) ?_ ?_
  · skip
    refine sm_iload_n (pc := 98) (n := 1) dX9_look_98 rfl ?_
    exact sm_tswR (pc := 99) (n := 8) (tdf := 187) [148, 153, 158, 163, 168, 173, 178, 183, 185] rfl (by decide) dX9_look_99 rfl (by decide +kernel) (by decide) (sbX9_lookv_187 P) ⟨sbX9_lookv_148 P, sbX9_lookv_153 P, sbX9_lookv_158 P, sbX9_lookv_163 P, sbX9_lookv_168 P, sbX9_lookv_173 P, sbX9_lookv_178 P, sbX9_lookv_183 P, sbX9_lookv_185 P, trivial⟩
  · skip
    refine sm_iload_n (pc := 66) (n := 3) dX9_look_66 rfl ?_
    refine sm_aloadV_n (pc := 67) (n := 0) dX9_look_67 rfl ?_
    refine gf_X9_41 (pc := 68) rfl dX9_look_68 ?_
    refine sm_aloadV_n (pc := 71) (n := 0) dX9_look_71 rfl ?_
    refine gf_X9_50 (pc := 72) rfl dX9_look_72 ?_
    refine sm_iload (pc := 75) (n := 4) dX9_look_75 ?_
    refine sm_ialoadQ (pc := 77) dX9_look_77 ?_
    refine sm_ialoadQ (pc := 78) dX9_look_78 ?_
    refine sm_joinJ (pc := 79) (pc' := 87) (j := 1) (fun G0 hG0 => @sbX9_lookv_87 d G0 P r57 (hr57.mv hG0 (by decide))) (fun j87 hj87 => ?_)
    refine sm_ifS_ne (pc := 79) (tgt := 86) dX9_look_79 (by decide) ?_ ?_
    · skip
      refine sm_iconst (pc := 86) dX9_look_86 zc_i_0 ?_
      exact hj87.use
    · skip
      refine sm_iconst (pc := 82) dX9_look_82 zc_i_1 ?_
      refine sm_goto (pc := 83) (tgt := 87) dX9_look_83 (by decide) ?_
      exact hj87.use
noncomputable def bX9_lookv_48 {d : Nat} (P : zP d) (r7 : zK d) : zK d := (xincR 4 1 r7)
set_option maxRecDepth 100000 in
set_option maxHeartbeats 4000000 in
theorem sbX9_lookv_48 {d : Nat} [zGh] (P : zP d) (r7 : zK d) (hr7 : zSimJ 1 X_X9_look 2 P 7 r7) : zSim X_X9_look 2 P 48 (bX9_lookv_48 P r7) := by
  unfold bX9_lookv_48
  refine sm_iincR (pc := 48) (n := 4) dX9_look_48 zc_i_1 ?_
  refine sm_goto (pc := 51) (tgt := 7) dX9_look_51 (by decide) ?_
  exact hr7.use
noncomputable def lX9_lookv_7 {d : Nat} (P : zP d) (r7 : zK d) : zK d := (xild 4 (xpI 66 (xcmpS tgeR rlGe rhS rlS rhLt (xpI 0 (xist 4 (xloop (fun r57 => (lX9_lookv_57 P r57)) 100000))) (xild 4 (xpI 11 (xbinN zremR (xaldV 0 (xgfI 25 2 (xjn (wkL 2 4294967296 wkE) (zsp [] 2) (bX9_lookv_48 P r7) (fun j48 => (xcmpS tgeR rlGe rhS rlS rhLt j48 (xaldV 0 (xgfR 25 43 (xild 4 (xlal (xpL 0 (xlcmpR (xif0S teqR rlEq rhEq rlNe rhNe j48 (xild 2 (xpI 1 (xild 4 (xpI 11 (xbinN zdivR (xbin zshl (xbin zor (xist 2 j48))))))))))))))))))))))))))
set_option maxRecDepth 100000 in
set_option maxHeartbeats 4000000 in
theorem slX9_lookv_7 {d : Nat} [zGh] (P : zP d) (r7 : zK d) (hr7 : zSimJ 1 X_X9_look 2 P 7 r7) : zSim X_X9_look 2 P 7 (lX9_lookv_7 P r7) := by
  unfold lX9_lookv_7
  refine sm_iload (pc := 7) (n := 4) dX9_look_7 ?_
  refine sm_bipush (pc := 9) dX9_look_9 zc_b_66 ?_
  refine sm_icmpS_ge (pc := 11) (tgt := 54) dX9_look_11 (by decide) ?_ ?_
  · skip
    refine sm_iconst (pc := 54) dX9_look_54 zc_i_0 ?_
    refine sm_istore (pc := 55) (n := 4) dX9_look_55 ?_
    exact (sm_loopJ (j := 1) (fun G1 hG1 r57 hr57 => @slX9_lookv_57 d G1 P r57 hr57) _).use
  · skip
    refine sm_iload (pc := 14) (n := 4) dX9_look_14 ?_
    refine sm_bipush (pc := 16) dX9_look_16 zc_b_11 ?_
    refine sm_iremR (pc := 18) dX9_look_18 ?_
    refine sm_aloadV_n (pc := 19) (n := 0) dX9_look_19 rfl ?_
    refine gf_X9_153 (pc := 20) rfl dX9_look_20 ?_
    refine sm_jn (pc := 23) (pc' := 48) (j := 1) (wkL_ok wkE_ok) (zsp_ok _ _) (fun G0 hG0 => @sbX9_lookv_48 d G0 P r7 (hr7.mv hG0 (by decide))) (fun j48 hj48 => ?_)
    refine sm_icmpS_ge (pc := 23) (tgt := 48) dX9_look_23 (by decide) ?_ ?_
    · skip
      exact hj48.use
    · skip
      refine sm_aloadV_n (pc := 26) (n := 0) dX9_look_26 rfl ?_
      refine gf_X9_115 (pc := 27) rfl dX9_look_27 ?_
      refine sm_iload (pc := 30) (n := 4) dX9_look_30 ?_
      refine sm_laload (pc := 32) dX9_look_32 ?_
      refine sm_lconst (pc := 33) dX9_look_33 zc_l_0 ?_
      refine sm_lcmpR (pc := 34) dX9_look_34 ?_
      refine sm_ifS_eq (pc := 35) (tgt := 48) dX9_look_35 (by decide) ?_ ?_
      · skip
        exact hj48.use
      · skip
        refine sm_iload_n (pc := 38) (n := 2) dX9_look_38 rfl ?_
        refine sm_iconst (pc := 39) dX9_look_39 zc_i_1 ?_
        refine sm_iload (pc := 40) (n := 4) dX9_look_40 ?_
        refine sm_bipush (pc := 42) dX9_look_42 zc_b_11 ?_
        refine sm_idivR (pc := 44) dX9_look_44 ?_
        refine sm_ishl (pc := 45) dX9_look_45 ?_
        refine sm_ior (pc := 46) dX9_look_46 ?_
        refine sm_istore_n (pc := 47) (n := 2) dX9_look_47 rfl ?_
        exact hj48.use
noncomputable def b_X9_lookv {d : Nat} (P : zP d) : zK d := (xpI 0 (xist 2 (xpI 0 (xist 3 (xpI 0 (xist 4 (xloop (fun r7 => (lX9_lookv_7 P r7)) 100000)))))))
set_option maxRecDepth 100000 in
set_option maxHeartbeats 4000000 in
theorem s_X9_lookv {d : Nat} [zGh] (P : zP d) : zSim X_X9_look 2 P 0 (b_X9_lookv P) := by
  unfold b_X9_lookv
  refine sm_iconst (pc := 0) dX9_look_0 zc_i_0 ?_
  refine sm_istore_n (pc := 1) (n := 2) dX9_look_1 rfl ?_
  refine sm_iconst (pc := 2) dX9_look_2 zc_i_0 ?_
  refine sm_istore_n (pc := 3) (n := 3) dX9_look_3 rfl ?_
  refine sm_iconst (pc := 4) dX9_look_4 zc_i_0 ?_
  refine sm_istore (pc := 5) (n := 4) dX9_look_5 ?_
  exact (sm_loopJ (j := 1) (fun G1 hG1 r7 hr7 => @slX9_lookv_7 d G1 P r7 hr7) _).use
noncomputable def f_X9_lookv {d : Nat} : List zV → zH d → zP d → Bool := zfn 5 (b_X9_lookv )
theorem m_X9_lookv {d : Nat} : zMet (d := d) X_X9_look yX9_look 2 (f_X9_lookv ) := zmet_mk (X := X_X9_look) (by decide) rfl rfl (fun P => s_X9_lookv P)
